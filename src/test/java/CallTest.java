/** Promise 6, but for what the INSTRUCTIONS and TRAPS do. Each method's comment tells the words that it tests. */
public final class CallTest {
    public static void main(String[] args) {
        waysFrom0To2();
        anyKey();
        valuesFromTheFirstOn();
        answersHowManyPairs();
        behindTheEndIsRefused();
        aGoalMayComeToBeAllowed();
        onlyGoalsAreLookedAt();
        theLatestCallStays();
        argumentComesFirst();
        trapsThrow();
        everyCallBeginsAnew();
        Check.end();
    }

    /** "in a way (0 to 2)", "IllegalArgumentException for another way". */
    private static void waysFrom0To2() {
        EmitDesk bare = new EmitDesk();
        EmitDesk emits = Check.desk(0, 1, 0, 2, 17, 0);
        for (int way = 0; way <= 2; way++) {
            Check.same("way " + way + " without INSTRUCTIONS", bare.call(way, 9), 0);
            Check.same("way " + way, emits.call(way, 9), 1);
        }
        for (int way : new int[] {-1, 3, 4, 256, Integer.MIN_VALUE, Integer.MAX_VALUE}) {
            Check.refused("way " + way + " without INSTRUCTIONS", Check.ARGUMENT, () -> bare.call(way, 9));
            Check.refused("way " + way, Check.ARGUMENT, () -> emits.call(way, 9));
        }
    }

    /** "with a KEY". */
    private static void anyKey() {
        EmitDesk desk = Check.desk(1, 0, 5, 2, 4, 2, 4, 2, 17, 0);
        for (long key : new long[] {0, 1, -1, 1L << 32, Long.MIN_VALUE, Long.MAX_VALUE}) {
            for (int way = 0; way <= 2; way++) {
                Check.same("key " + key, desk.call(way, key), 1);
                Check.cells("key " + key, desk, 0, 0, key, 0);
                Check.pairs("key " + key, desk, key, key);
            }
        }
    }

    /** "and the VALUES from the first on": whatever the call before has taken. */
    private static void valuesFromTheFirstOn() {
        EmitDesk desk = Check.desk(2, 0, 5, 0, 2, 0, 5, 1);
        Check.values(desk, 61, 62);
        for (int way : new int[] {2, 1, 2, 1}) {
            Check.same("way " + way, desk.call(way, 0), 0);
            Check.cells("way " + way, desk, 61, 62, 0, 0);
            Check.told("way " + way, desk, 4, 0, 0, 2, 0);
        }
        desk.code(2, 0);
        Check.refused("third of two", Check.TRAP, () -> desk.call(2, 0));
        desk.value(63);
        Check.same("behind a TRAP", desk.call(1, 0), 0);
        Check.cells("behind a TRAP", desk, 61, 62, 0, 0);
        Check.same("way 0 behind way 1", desk.call(0, 0), 0);
        Check.cells("way 0 behind way 1", desk, 61, 61, 0, 0);
    }

    /** "how many pairs were emitted": none, and up to four. */
    private static void answersHowManyPairs() {
        EmitDesk desk = new EmitDesk();
        for (int count = 0; count <= 4; count++) {
            for (int way = 0; way <= 2; way++) {
                Check.same(count + " pairs, way " + way, desk.call(way, 9), count);
            }
            Check.code(desk, 0, 1, 0, 2, 17, 0);
        }
    }

    /** "or if a 15 or 16 anywhere in the PROGRAM goes behind the end (the end itself may be". */
    private static void behindTheEndIsRefused() {
        for (int op = 15; op <= 16; op++) {
            for (int length = 1; length <= 40; length++) {
                for (int place = 0; place < length; place++) {
                    goal(op, length, place);
                }
            }
        }
    }

    private static void goal(int op, int length, int place) {
        String what = op + " at " + place + " of " + length;
        // Only the first INSTRUCTION is done: a goal behind the end is refused where it is never come to, too.
        boolean traps = place == 0 && op == 16;
        EmitDesk end = withGoal(op, length, place, length);
        Check.sameAnswer(what + " to the end", () -> end.call(0, 0), () -> traps ? trap() : 0);
        if (length < 40) {
            EmitDesk behind = withGoal(op, length, place, length + 1);
            Check.refused(what + " behind the end", Check.ARGUMENT, () -> behind.call(0, 0));
            EmitDesk far = withGoal(op, length, place, 40);
            Check.refused(what + " to 40", Check.ARGUMENT, () -> far.call(2, 0));
        }
    }

    private static EmitDesk withGoal(int op, int length, int place, int goal) {
        EmitDesk desk = new EmitDesk();
        Check.repeat(desk, place, 18, 0);
        desk.code(op, goal);
        Check.repeat(desk, length - place - 1, 18, 0);
        return desk;
    }

    private static long trap() {
        throw new UnsupportedOperationException();
    }

    private static void aGoalMayComeToBeAllowed() {
        EmitDesk desk = Check.desk(15, 3);
        Check.refused("to 3 of 1", Check.ARGUMENT, () -> desk.call(0, 0));
        desk.code(13, 0);
        Check.refused("to 3 of 2", Check.ARGUMENT, () -> desk.call(0, 0));
        desk.code(13, 0);
        Check.same("to 3 of 3, the end", desk.call(0, 0), 0);
        Check.told("to 3 of 3, the end", desk, 1, 0, 0, 0, 0);
        desk.code(18, 0);
        Check.same("to 3 of 4", desk.call(0, 0), 0);
        Check.told("to 3 of 4", desk, 2, 0, 0, 0, 0);
    }

    private static void onlyGoalsAreLookedAt() {
        for (int op = 0; op <= 18; op++) {
            if (op == 4 || op == 5 || op == 15 || op == 16) {
                continue;
            }
            EmitDesk desk = Check.desk(18, 99, op, 41, op, Long.MAX_VALUE);
            Check.same("the number of " + op + " is no goal", desk.call(0, 0), 0);
        }
        Check.same("the number of 4 is no goal", Check.desk(4, 3).call(0, 0), 0);
        Check.same("the number of 5 is no goal", Check.desk(0, 1, 5, 3).call(0, 0), 0);
    }

    /** "what the latest call left stays then". */
    private static void theLatestCallStays() {
        EmitDesk desk = Check.desk(2, 0, 5, 0, 1, 0, 4, 0, 17, 0, 0, 2);
        Check.values(desk, 31, 32);
        Check.same("call", desk.call(2, 6), 1);
        desk.code(15, 40);
        for (int way = -1; way <= 3; way++) {
            int tried = way;
            Check.refused("behind the end, way " + way, Check.ARGUMENT, () -> desk.call(tried, 9));
            Check.told("behind the end, way " + way, desk, 6, 1, 1, 1, 0);
            Check.cells("behind the end, way " + way, desk, 31, 0, 0, 0);
            Check.pairs("behind the end, way " + way, desk, 6, 31);
        }
        EmitDesk trapped = Check.desk(1, 0, 12, 0, 17, 0, 0, 5, 5, 3, 13, 0);
        Check.refused("a TRAP", Check.TRAP, () -> trapped.call(0, 8));
        trapped.code(16, 8);
        Check.refused("behind the end", Check.ARGUMENT, () -> trapped.call(0, 9));
        Check.told("behind the end, behind a TRAP", trapped, 6, 0, 1, 0, 1);
        Check.cells("behind the end, behind a TRAP", trapped, 0, 0, 0, 5);
        Check.pairs("behind the end, behind a TRAP", trapped, 8, 8);
    }

    /** "IllegalArgumentException comes first." Here before the TRAP that the first INSTRUCTION would have. */
    private static void argumentComesFirst() {
        Check.refused("way -1 before a TRAP", Check.ARGUMENT, () -> Check.desk(13, 0).call(-1, 0));
        Check.refused("way 3 before a TRAP", Check.ARGUMENT, () -> Check.desk(13, 0).call(3, 0));
        Check.refused("15 before a TRAP", Check.ARGUMENT, () -> Check.desk(13, 0, 15, 3).call(0, 0));
        Check.refused("16 before a TRAP", Check.ARGUMENT, () -> Check.desk(13, 0, 16, 3).call(0, 0));
        Check.refused("16 that would have the TRAP", Check.ARGUMENT, () -> Check.desk(16, 2).call(0, 0));
    }

    /** "UnsupportedOperationException for a TRAP." TrapTest has every kind of them. */
    private static void trapsThrow() {
        for (int way = 0; way <= 2; way++) {
            int tried = way;
            Check.refused("a TRAP, way " + way, Check.TRAP, () -> Check.desk(13, 0).call(tried, 0));
        }
    }

    /** "a stack (at most 12 longs, empty when a call begins) and CELLS 0 to 3 (0 then)". */
    private static void everyCallBeginsAnew() {
        EmitDesk desk = new EmitDesk();
        for (int k = 0; k <= 3; k++) {
            Check.code(desk, 0, 5 + k, 5, k);
        }
        Check.repeat(desk, 12, 0, 1);
        for (int i = 0; i < 3; i++) {
            Check.same("twelve on the stack", desk.call(i, 0), 0);
            Check.told("twelve on the stack", desk, 20, 12, 0, 0, 0);
            Check.cells("twelve on the stack", desk, 5, 6, 7, 8);
        }
        desk.code(0, 1);
        Check.refused("a thirteenth", Check.TRAP, () -> desk.call(0, 0));
        fresh("behind a TRAP", desk);
        Check.repeat(desk, 12, 0, 1);
        desk.call(0, 0);
        fresh("behind a full stack", desk);
    }

    private static void fresh(String what, EmitDesk desk) {
        desk.clear();
        Check.code(desk, 4, 0, 4, 1, 17, 0, 4, 2, 4, 3, 17, 0);
        Check.same(what, desk.call(2, 0), 2);
        Check.pairs(what + ", the CELLS are 0", desk, 0, 0, 0, 0);
        Check.told(what, desk, 6, 0, 2, 0, 0);
        desk.clear();
        desk.code(13, 0);
        Check.refused(what + ", the stack is empty", Check.TRAP, () -> desk.call(2, 0));
        Check.pairs(what + ", no pairs", desk);
        desk.clear();
    }
}
