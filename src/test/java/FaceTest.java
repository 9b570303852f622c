import java.io.IOException;
import java.lang.reflect.Constructor;
import java.lang.reflect.Field;
import java.lang.reflect.Method;
import java.lang.reflect.Modifier;
import java.nio.file.Files;
import java.nio.file.Path;
import java.util.Set;
import java.util.TreeSet;
import java.util.regex.Matcher;
import java.util.regex.Pattern;

/** The public face of the document, and the rules of LANGUAGE.md that a program can look at. */
public final class FaceTest {
    private static final Set<String> METHODS = Set.of("int feed(int)", "int reuse(int,int,int)",
            "int publish()", "int patch(int,int)", "int patchByte(int,int,int)",
            "int saved(int,int)", "int offer(int)", "int block(int,int)", "int install(int)",
            "int boot()", "int confirm()", "int damage(int,int,int)", "int slot(int,int)",
            "int state(int)", "boolean sound(int)");
    private static final Set<String> CONSTANTS = Set.of("REFUSED=-1", "FULL=-2", "SPOILED=-3",
            "NOT_NOW=-4", "DEAD=-5", "IDLE=0", "FETCHING=1", "INSTALLING=2", "READY=3",
            "TRYING=4");

    public static void main(String[] args) throws Exception {
        theClass();
        theMethods();
        theConstants();
        theConstructor();
        theClassesInside();
        theWords();
        Due.end();
    }

    private static void same(String what, Set<String> got, Set<String> want) {
        Due.due(what + " " + new TreeSet<>(got), got.equals(want), true);
    }

    private static void theClass() {
        int m = TwoSlots.class.getModifiers();
        Due.due("public final", Modifier.isPublic(m) && Modifier.isFinal(m), true);
        Due.due("no package", TwoSlots.class.getPackageName().isEmpty(), true);
    }

    private static void theMethods() {
        Set<String> open = new TreeSet<>();
        Set<String> openNames = new TreeSet<>();
        for (Method method : TwoSlots.class.getDeclaredMethods()) {
            if (!Modifier.isPrivate(method.getModifiers())) {
                open.add(signature(method));
                openNames.add(method.getName());
                Due.due(method + " is public, not static", method.getModifiers(), Modifier.PUBLIC);
            }
        }
        same("methods", open, METHODS);
        noNameTwice(TwoSlots.class, openNames);
        for (Class<?> inside : TwoSlots.class.getDeclaredClasses()) {
            noNameTwice(inside, openNames);
        }
    }

    private static void noNameTwice(Class<?> type, Set<String> openNames) {
        for (Method method : type.getDeclaredMethods()) {
            boolean hidden = Modifier.isPrivate(method.getModifiers());
            Due.due(method + " is private and bears a public method's name",
                    hidden && openNames.contains(method.getName()), false);
        }
    }

    private static String signature(Method method) {
        StringBuilder text = new StringBuilder();
        text.append(method.getReturnType()).append(' ').append(method.getName()).append('(');
        for (int i = 0; i < method.getParameterCount(); i++) {
            text.append(i == 0 ? "" : ",").append(method.getParameterTypes()[i]);
        }
        return text.append(')').toString();
    }

    private static void theConstants() throws IllegalAccessException {
        Set<String> open = new TreeSet<>();
        for (Field field : TwoSlots.class.getDeclaredFields()) {
            int m = field.getModifiers();
            Due.due(field + " is final if static", Modifier.isStatic(m) && !Modifier.isFinal(m),
                    false);
            if (!Modifier.isPrivate(m)) {
                open.add(field.getName() + "=" + field.getInt(null));
                Due.due(field + "", m, Modifier.PUBLIC | Modifier.STATIC | Modifier.FINAL);
            }
        }
        same("constants", open, CONSTANTS);
    }

    private static void theConstructor() {
        Constructor<?>[] all = TwoSlots.class.getDeclaredConstructors();
        Due.due("constructors", all.length, 1);
        Due.due("its parameters", all[0].getParameterCount(), 0);
        Due.due("public constructor", Modifier.isPublic(all[0].getModifiers()), true);
    }

    private static void theClassesInside() {
        Class<?>[] inside = TwoSlots.class.getDeclaredClasses();
        Due.due("at most 11 classes inside", inside.length <= 11, true);
        for (Class<?> type : inside) {
            int m = type.getModifiers();
            Due.due(type + " is static", Modifier.isStatic(m), true);
            Due.due(type + " is hidden", Modifier.isPublic(m) || Modifier.isProtected(m), false);
            Due.due(type + "'s fields", type.getDeclaredFields().length <= 20, true);
        }
    }

    private static void theWords() throws IOException {
        String text = Files.readString(Path.of("src/main/java/TwoSlots.java"));
        String code = text.replaceAll("(?s)/\\*.*?\\*/", "").replaceAll("//[^\n]*", "")
                .replaceAll("import java\\.util\\.(ArrayList|Arrays|Iterator|List);", "");
        Pattern ruledOut = Pattern.compile("\\b(throw|throws|try|catch|synchronized|assert|import"
                + "|package|System\\.(?!arraycopy))\\b|::");
        Matcher found = ruledOut.matcher(code);
        while (found.find()) {
            Due.due("TwoSlots.java holds '" + found.group() + "'", true, false);
        }
    }
}
