import java.lang.reflect.Array;
import java.lang.reflect.Field;

/**
 * Two sentences of INSTALLING that no run of calls comes to: a slot that runs keeps the length of
 * its mark's version, so no copy reaches behind its end, and the pieces of a patch are together as
 * long as a version, so none goes beyond 40 bytes (ModelTest looks for both). Here the length of a
 * slot's row is set by hand instead.
 */
public final class InsideTest {
    public static void main(String[] args) throws IllegalAccessException {
        try {
            copyOfWhatIsNotThere();
            copyBeyond40();
            looseBeyond40();
        } catch (NoSuchFieldException e) {
            // How the state is held is free: held in another way, there is nothing to set.
            System.out.println("InsideTest left out: no field " + e.getMessage());
        }
        Due.end();
    }

    private static Object inside(Object holder, String name)
            throws NoSuchFieldException, IllegalAccessException {
        return field(holder, name).get(holder);
    }

    private static Field field(Object holder, String name) throws NoSuchFieldException {
        Field field = holder.getClass().getDeclaredField(name);
        field.setAccessible(true);
        return field;
    }

    private static void setLength(Run x, int slot, int length)
            throws NoSuchFieldException, IllegalAccessException {
        Object row = Array.get(inside(inside(x.object(), "device"), "rows"), slot);
        field(row, "length").setInt(row, length);
    }

    /** Slot 1 runs version 1; the patch to version 2 is 90, 10 bytes from place 2 on, and 91. */
    private static Run installing() {
        Run x = Run.with(Rows.count(1, 20),
                Rows.join(Rows.row(90), Rows.count(3, 10), Rows.row(91)));
        x.update(1);
        x.patchIs(2, 1, 1, 90, 38, 2, 1, 91);
        x.fetch(2);
        return x;
    }

    private static void copyOfWhatIsNotThere() throws NoSuchFieldException, IllegalAccessException {
        Due.sentence("Terms", "a place of the running slot's row that is not there gives 0.");
        for (int length = 0; length <= 20; length++) {
            Run x = installing();
            setLength(x, 1, length);
            int there = Math.max(0, Math.min(10, length - 2));
            x.due(TwoSlots.INSTALLING, "install", 2);
            x.slotIs(0, Rows.join(Rows.row(90), Rows.count(3, there), new int[10 - there]));
            x.due(there == 10 ? TwoSlots.READY : TwoSlots.IDLE, "install", 1);
        }
    }

    private static void copyBeyond40() throws NoSuchFieldException, IllegalAccessException {
        Due.sentence("Terms", "at most 40 bytes (what goes beyond is left out)");
        for (int before = 28; before <= 40; before++) {
            Run x = installing();
            x.due(TwoSlots.INSTALLING, "install", 1);
            setLength(x, 0, before);
            int put = Math.min(10, 40 - before);
            x.due(TwoSlots.INSTALLING, "install", 1);
            x.slotIs(0, Rows.join(Rows.row(90), new int[before - 1], Rows.count(3, put)));
            x.due(TwoSlots.IDLE, "install", 1);
            x.due(Math.min(40, before + put + 1), "state", 5);
        }
    }

    private static void looseBeyond40() throws NoSuchFieldException, IllegalAccessException {
        Due.sentence("Terms", "at most 40 bytes (what goes beyond is left out)");
        for (int before = 35; before <= 40; before++) {
            Run x = Run.with(Rows.row(7, 8, 9));
            x.fetch(1);
            setLength(x, 1, before);
            x.due(TwoSlots.IDLE, "install", 1);
            x.slotIs(1, Rows.join(new int[before], Rows.count(7, Math.min(3, 40 - before))));
        }
    }
}
