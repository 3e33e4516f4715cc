/** What the tests share: they count the answers that are not due, and end with exit code 1 if there was one. */
final class Check {
    static final Class<? extends RuntimeException> ARGUMENT = IllegalArgumentException.class;
    static final Class<? extends RuntimeException> STATE = IllegalStateException.class;
    static final Class<? extends RuntimeException> INDEX = IndexOutOfBoundsException.class;
    static final Class<? extends RuntimeException> TRAP = UnsupportedOperationException.class;

    private static int wrong = 0;

    private Check() {
    }

    static void same(String what, long got, long due) {
        if (got != due) {
            fail(what + " answered " + got + ", due is " + due);
        }
    }

    /** The very class is due: some of these exceptions are superclasses of others. */
    static void refused(String what, Class<? extends RuntimeException> due, Runnable call) {
        try {
            call.run();
        } catch (RuntimeException e) {
            if (e.getClass() != due) {
                fail(what + " threw " + e.getClass().getName() + ", due is " + due.getName());
            }
            return;
        }
        fail(what + " threw nothing, due is " + due.getName());
    }

    static void fail(String text) {
        wrong++;
        System.out.println(text);
    }

    static void end() {
        if (wrong != 0) {
            System.out.println(wrong + " answers are not as due");
            System.exit(1);
        }
    }

    /** A new object with a program, written as op, number, op, number and so on. */
    static EmitDesk desk(long... program) {
        EmitDesk desk = new EmitDesk();
        code(desk, program);
        return desk;
    }

    static void code(EmitDesk desk, long... program) {
        for (int i = 0; i < program.length; i += 2) {
            desk.code((int) program[i], program[i + 1]);
        }
    }

    static void values(EmitDesk desk, long... values) {
        for (long v : values) {
            desk.value(v);
        }
    }

    static void told(String what, EmitDesk desk, int... due) {
        for (int i = 0; i < due.length; i++) {
            same(what + ": told(" + i + ")", desk.told(i), due[i]);
        }
    }

    static void cells(String what, EmitDesk desk, long... due) {
        for (int k = 0; k < due.length; k++) {
            same(what + ": cell(" + k + ")", desk.cell(k), due[k]);
        }
    }

    /** The pairs that are due, written as key, value, key, value and so on, and no pair behind them. */
    static void pairs(String what, EmitDesk desk, long... due) {
        for (int i = 0; i < due.length / 2; i++) {
            same(what + ": emitted(" + i + ", false)", desk.emitted(i, false), due[2 * i]);
            same(what + ": emitted(" + i + ", true)", desk.emitted(i, true), due[2 * i + 1]);
        }
        int behind = due.length / 2;
        refused(what + ": emitted(" + behind + ", false)", INDEX, () -> desk.emitted(behind, false));
        refused(what + ": emitted(" + behind + ", true)", INDEX, () -> desk.emitted(behind, true));
    }
}
