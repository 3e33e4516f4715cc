import java.util.function.LongSupplier;

/** What the tests share: they count the answers that are not due, and end with exit code 1 if there was one. */
final class Check {
    static final Class<? extends RuntimeException> ARGUMENT = IllegalArgumentException.class;
    static final Class<? extends RuntimeException> STATE = IllegalStateException.class;
    static final Class<? extends RuntimeException> INDEX = IndexOutOfBoundsException.class;
    static final Class<? extends RuntimeException> TRAP = UnsupportedOperationException.class;

    private static int wrong = 0;

    private Check() {
    }

    static void same(String what, long got, long due) {
        if (got != due) {
            fail(what + " answered " + got + ", due is " + due);
        }
    }

    /** The very class is due: some of these exceptions are superclasses of others. */
    static void refused(String what, Class<? extends RuntimeException> due, Runnable call) {
        try {
            call.run();
        } catch (RuntimeException e) {
            if (e.getClass() != due) {
                fail(what + " threw " + e.getClass().getName() + ", due is " + due.getName());
            }
            return;
        }
        fail(what + " threw nothing, due is " + due.getName());
    }

    static void sameAnswer(String what, LongSupplier got, LongSupplier due) {
        String gotText = answer(got);
        String dueText = answer(due);
        if (!gotText.equals(dueText)) {
            fail(what + " answered " + gotText + ", due is " + dueText);
        }
    }

    private static String answer(LongSupplier call) {
        try {
            return Long.toString(call.getAsLong());
        } catch (RuntimeException e) {
            return "throws." + e.getClass().getSimpleName();
        }
    }

    static void fail(String text) {
        wrong++;
        System.out.println(text);
    }

    static void end() {
        if (wrong != 0) {
            System.out.println(wrong + " answers are not as due");
            System.exit(1);
        }
    }

    /** A new object with a program, written as op, number, op, number and so on. */
    static EmitDesk desk(long... program) {
        EmitDesk desk = new EmitDesk();
        code(desk, program);
        return desk;
    }

    static void code(EmitDesk desk, long... program) {
        for (int i = 0; i < program.length; i += 2) {
            desk.code((int) program[i], program[i + 1]);
        }
    }

    static void repeat(EmitDesk desk, int times, long... program) {
        for (int i = 0; i < times; i++) {
            code(desk, program);
        }
    }

    static void values(EmitDesk desk, long... values) {
        for (long v : values) {
            desk.value(v);
        }
    }

    /** The VALUES from 1 on. */
    static void valuesTo(EmitDesk desk, int last) {
        for (int v = 1; v <= last; v++) {
            desk.value(v);
        }
    }

    static void told(String what, EmitDesk desk, int... due) {
        for (int i = 0; i < due.length; i++) {
            same(what + ": told(" + i + ")", desk.told(i), due[i]);
        }
    }

    static void cells(String what, EmitDesk desk, long... due) {
        for (int k = 0; k < due.length; k++) {
            same(what + ": cell(" + k + ")", desk.cell(k), due[k]);
        }
    }

    /** The pairs that are due, written as key, value, key, value and so on, and none before or behind them. */
    static void pairs(String what, EmitDesk desk, long... due) {
        int count = due.length / 2;
        for (int i = 0; i < count; i++) {
            int asked = i;
            sameAnswer(what + ": emitted(" + i + ", false)", () -> desk.emitted(asked, false), () -> due[2 * asked]);
            sameAnswer(what + ": emitted(" + i + ", true)", () -> desk.emitted(asked, true), () -> due[2 * asked + 1]);
        }
        for (int none : new int[] {-1, count}) {
            refused(what + ": emitted(" + none + ", false)", INDEX, () -> desk.emitted(none, false));
            refused(what + ": emitted(" + none + ", true)", INDEX, () -> desk.emitted(none, true));
        }
    }
}
