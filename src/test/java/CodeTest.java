/** Promise 2. */
public final class CodeTest {
    public static void main(String[] args) {
        everyInstructionIsTaken();
        wrongInstructionsAreRefused();
        anyNumberWhereItIsFree();
        fortyAtMost();
        refusedOnesChangeNothing();
        theLatestCallStays();
        Check.end();
    }

    private static void everyInstructionIsTaken() {
        EmitDesk desk = new EmitDesk();
        for (int op = 0; op <= 18; op++) {
            Check.same("code(" + op + ", 0)", desk.code(op, 0), op + 1);
        }
        EmitDesk edges = new EmitDesk();
        Check.same("code(4, 3)", edges.code(4, 3), 1);
        Check.same("code(5, 3)", edges.code(5, 3), 2);
        Check.same("code(15, 40)", edges.code(15, 40), 3);
        Check.same("code(16, 40)", edges.code(16, 40), 4);
    }

    private static void wrongInstructionsAreRefused() {
        EmitDesk desk = new EmitDesk();
        for (int op : new int[] {-1, 19, 20, Integer.MIN_VALUE, Integer.MAX_VALUE}) {
            Check.refused("code(" + op + ", 0)", Check.ARGUMENT, () -> desk.code(op, 0));
        }
        // 1L << 32 is 0 if it is cut to an int before it is looked at.
        for (long a : new long[] {-1, 4, 40, 1L << 32, Long.MIN_VALUE, Long.MAX_VALUE}) {
            Check.refused("code(4, " + a + ")", Check.ARGUMENT, () -> desk.code(4, a));
            Check.refused("code(5, " + a + ")", Check.ARGUMENT, () -> desk.code(5, a));
        }
        for (long a : new long[] {-1, 41, 1L << 32, Long.MIN_VALUE, Long.MAX_VALUE}) {
            Check.refused("code(15, " + a + ")", Check.ARGUMENT, () -> desk.code(15, a));
            Check.refused("code(16, " + a + ")", Check.ARGUMENT, () -> desk.code(16, a));
        }
        Check.same("clear() behind refused ones", desk.clear(), 0);
    }

    private static void anyNumberWhereItIsFree() {
        for (int op = 0; op <= 18; op++) {
            if (op == 4 || op == 5 || op == 15 || op == 16) {
                continue;
            }
            EmitDesk desk = new EmitDesk();
            Check.same("code(" + op + ", least)", desk.code(op, Long.MIN_VALUE), 1);
            Check.same("code(" + op + ", -1)", desk.code(op, -1), 2);
            Check.same("code(" + op + ", 41)", desk.code(op, 41), 3);
            Check.same("code(" + op + ", most)", desk.code(op, Long.MAX_VALUE), 4);
        }
    }

    private static void fortyAtMost() {
        EmitDesk desk = new EmitDesk();
        for (int i = 1; i <= 40; i++) {
            Check.same("code " + i, desk.code(18, 0), i);
        }
        Check.refused("code 41", Check.STATE, () -> desk.code(0, 1));
        Check.refused("wrong op when full", Check.ARGUMENT, () -> desk.code(19, 0));
        Check.refused("wrong cell when full", Check.ARGUMENT, () -> desk.code(5, 4));
        Check.refused("wrong goal when full", Check.ARGUMENT, () -> desk.code(16, 41));
        Check.same("clear() of a full one", desk.clear(), 40);
        Check.same("code behind clear()", desk.code(0, 1), 1);
    }

    private static void refusedOnesChangeNothing() {
        EmitDesk desk = Check.desk(0, 7, 5, 2);
        Check.refused("code(4, 9)", Check.ARGUMENT, () -> desk.code(4, 9));
        Check.same("next code", desk.code(18, 0), 3);
        Check.same("call", desk.call(0, 0), 0);
        Check.told("behind a refused one", desk, 3, 0, 0, 0, 0);
        Check.cells("behind a refused one", desk, 0, 0, 7, 0);
    }

    private static void theLatestCallStays() {
        EmitDesk desk = Check.desk(0, 7, 5, 2, 0, 1, 0, 2, 17, 0);
        desk.call(0, 0);
        desk.code(0, 3);
        Check.told("code behind a call", desk, 5, 0, 1, 0, 0);
        Check.cells("code behind a call", desk, 0, 0, 7, 0);
        Check.pairs("code behind a call", desk, 1, 2);
    }
}
