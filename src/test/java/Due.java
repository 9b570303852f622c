/** What the tests share: counting wrong answers, and telling which sentence they break. */
final class Due {
    private static final int TOLD_MOST = 20;
    private static int wrong = 0;
    private static String sentence = "";

    private Due() {
    }

    /** What follows looks at these words of the document (QuotesTest: they do stand there). */
    static void sentence(String heading, String words) {
        sentence = heading + ", '" + words + "': ";
    }

    static void wrong(String text) {
        wrong++;
        if (wrong <= TOLD_MOST) {
            System.out.println(sentence + text);
        }
    }

    static void due(String what, long got, long want) {
        if (got != want) {
            wrong(what + " answered " + got + ", due is " + want);
        }
    }

    static void due(String what, boolean got, boolean want) {
        due(what, got ? 1 : 0, want ? 1 : 0);
    }

    static void end() {
        if (wrong != 0) {
            System.out.println(wrong + " answers are not as due");
            System.exit(1);
        }
    }
}
