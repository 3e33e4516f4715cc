/** Promise 2. Each method's comment tells the words of the document that it tests. */
public final class CodeTest {
    private static final long[] FAR = {1L << 32, (1L << 32) + 1, -(1L << 32), Long.MIN_VALUE, Long.MAX_VALUE};

    public static void main(String[] args) {
        answersHowMany();
        theFortiethIsLikeOthers();
        opsFrom0To18();
        cellsFrom0To3();
        goalsFrom0To40();
        anyNumberForTheOthers();
        fortyAtMost();
        argumentComesFirst();
        refusedOnesAreNoInstructions();
        theLatestCallStays();
        Check.end();
    }

    /** "One more INSTRUCTION: how many.", "a row of at most 40 INSTRUCTIONS, with a number A each": all are done. */
    private static void answersHowMany() {
        EmitDesk desk = new EmitDesk();
        Check.same("code 1", desk.code(0, 1), 1);
        for (int i = 1; i <= 19; i++) {
            Check.same("code " + 2 * i, desk.code(0, 1L << i), 2 * i);
            Check.same("code " + (2 * i + 1), desk.code(6, 0), 2 * i + 1);
        }
        Check.same("code 40", desk.code(5, 3), 40);
        Check.same("call of forty", desk.call(0, 0), 0);
        Check.told("call of forty", desk, 40, 0, 0, 0, 0);
        Check.cells("call of forty", desk, 0, 0, 0, (1 << 20) - 1);
    }

    private static void theFortiethIsLikeOthers() {
        for (int op = 0; op <= 18; op++) {
            EmitDesk fourth = withLast(4, op);
            EmitDesk fortieth = withLast(40, op);
            String what = op + " as the fortieth";
            Check.sameAnswer(what, () -> fortieth.call(2, 8), () -> fourth.call(2, 8));
            for (int i = 1; i <= 4; i++) {
                Check.same(what + ": told(" + i + ")", fortieth.told(i), fourth.told(i));
            }
            Check.cells(what, fortieth, fourth.cell(0), 0, 0, 0);
        }
    }

    /** Goes from one to the next, pushes three longs, and ends with an INSTRUCTION that can be seen to be done. */
    private static EmitDesk withLast(int length, int op) {
        EmitDesk desk = new EmitDesk();
        for (int next = 1; next <= length - 4; next++) {
            desk.code(15, next);
        }
        Check.code(desk, 0, 7, 0, 6, 0, 5, op, 0);
        desk.value(3);
        return desk;
    }

    /** "IllegalArgumentException if op is not 0 to 18". */
    private static void opsFrom0To18() {
        EmitDesk desk = new EmitDesk();
        for (int op = 0; op <= 18; op++) {
            Check.same("code(" + op + ", 0)", desk.code(op, 0), op + 1);
        }
        for (int op : new int[] {-1, 19, 20, 256, Integer.MIN_VALUE, Integer.MAX_VALUE}) {
            Check.refused("code(" + op + ", 0)", Check.ARGUMENT, () -> desk.code(op, 0));
            Check.refused("code(" + op + ", 0) of a new one", Check.ARGUMENT, () -> new EmitDesk().code(op, 0));
        }
        Check.same("clear() behind wrong ops", desk.clear(), 19);
    }

    /** "or a not 0 to 3 for 4 and 5". */
    private static void cellsFrom0To3() {
        allowedUpTo(4, 3);
        allowedUpTo(5, 3);
    }

    /** "0 to 40 for 15 and 16". However short the PROGRAM is: more of it may come. */
    private static void goalsFrom0To40() {
        allowedUpTo(15, 40);
        allowedUpTo(16, 40);
    }

    private static void allowedUpTo(int op, long last) {
        for (long a = 0; a <= last; a++) {
            Check.same("code(" + op + ", " + a + ")", new EmitDesk().code(op, a), 1);
        }
        EmitDesk desk = new EmitDesk();
        for (long a : new long[] {-1, last + 1}) {
            Check.refused("code(" + op + ", " + a + ")", Check.ARGUMENT, () -> desk.code(op, a));
        }
        // Some of these are within the bounds if they are cut to an int before they are looked at.
        for (long a : FAR) {
            Check.refused("code(" + op + ", " + a + ")", Check.ARGUMENT, () -> desk.code(op, a));
        }
        Check.same("clear() behind wrong numbers", desk.clear(), 0);
    }

    private static void anyNumberForTheOthers() {
        for (int op = 0; op <= 18; op++) {
            if (op == 4 || op == 5 || op == 15 || op == 16) {
                continue;
            }
            EmitDesk desk = new EmitDesk();
            int count = 0;
            for (long a : new long[] {-1, 4, 41, 1L << 32, Long.MIN_VALUE, Long.MAX_VALUE}) {
                count++;
                Check.same("code(" + op + ", " + a + ")", desk.code(op, a), count);
            }
        }
    }

    /** "IllegalStateException if there are 40." */
    private static void fortyAtMost() {
        for (int op = 0; op <= 18; op++) {
            EmitDesk desk = new EmitDesk();
            Check.repeat(desk, 39, 18, 0);
            int tried = op;
            Check.same("code 40 is " + op, desk.code(op, 0), 40);
            Check.refused("code 41 is " + op, Check.STATE, () -> desk.code(tried, 0));
            Check.refused("code 41 is " + op + ", again", Check.STATE, () -> desk.code(tried, 0));
            Check.same("clear() of a full one", desk.clear(), 40);
            Check.same("code behind clear()", desk.code(op, 0), 1);
        }
    }

    /** "IllegalArgumentException comes first." Here before the IllegalStateException of a full PROGRAM. */
    private static void argumentComesFirst() {
        EmitDesk full = new EmitDesk();
        Check.repeat(full, 40, 18, 0);
        Check.refused("op -1 when full", Check.ARGUMENT, () -> full.code(-1, 0));
        Check.refused("op 19 when full", Check.ARGUMENT, () -> full.code(19, 0));
        for (int op = 4; op <= 5; op++) {
            int tried = op;
            Check.refused(op + " with -1 when full", Check.ARGUMENT, () -> full.code(tried, -1));
            Check.refused(op + " with 4 when full", Check.ARGUMENT, () -> full.code(tried, 4));
        }
        for (int op = 15; op <= 16; op++) {
            int tried = op;
            Check.refused(op + " with -1 when full", Check.ARGUMENT, () -> full.code(tried, -1));
            Check.refused(op + " with 41 when full", Check.ARGUMENT, () -> full.code(tried, 41));
        }
    }

    /** "Else what throws changes nothing": none of the refused ones is done (see RefusedTest too). */
    private static void refusedOnesAreNoInstructions() {
        EmitDesk desk = Check.desk(0, 7, 5, 2);
        Check.refused("code(4, 9)", Check.ARGUMENT, () -> desk.code(4, 9));
        Check.refused("code(19, 1)", Check.ARGUMENT, () -> desk.code(19, 1));
        Check.same("next code", desk.code(18, 0), 3);
        Check.same("call", desk.call(0, 0), 0);
        Check.told("behind a refused one", desk, 3, 0, 0, 0, 0);
        Check.cells("behind a refused one", desk, 0, 0, 7, 0);
    }

    private static void theLatestCallStays() {
        EmitDesk desk = Check.desk(0, 7, 5, 2, 0, 1, 0, 2, 17, 0);
        desk.call(0, 0);
        desk.code(0, 3);
        Check.told("code behind a call", desk, 5, 0, 1, 0, 0);
        Check.cells("code behind a call", desk, 0, 0, 7, 0);
        Check.pairs("code behind a call", desk, 1, 2);
    }
}
