/** Terms: each TRAP, and what stays then. Each method's comment tells the words of the document that it tests. */
public final class TrapTest {
    private static final long KEY = 77;

    public static void main(String[] args) {
        tooManyInstructions();
        theLastOneThatIsAllowed();
        byZero();
        tooFull();
        fullIsNoTrap();
        tooFullForAValue();
        tooEmpty();
        justEnoughIsNoTrap();
        noFirstValue();
        noNextValue();
        fifthEmit();
        whatWasEmittedStays();
        cellsStay();
        nothingIsDoneBehindIt();
        programAndValuesStay();
        theNextCallIsFresh();
        Check.end();
    }

    private static void trap(String what, EmitDesk desk, int way, int done, int pairs, int taken) {
        Check.refused(what, Check.TRAP, () -> desk.call(way, KEY));
        Check.told(what, desk, done, 0, pairs, taken, 1);
    }

    /** Does 396 INSTRUCTIONS if it is called with the KEY 49: 2 before, 8 a round, and 2 to leave. */
    private static EmitDesk does396() {
        return Check.desk(1, 0, 5, 0, 4, 0, 16, 10, 4, 0, 0, 1, 7, 0, 5, 0, 0, 0, 16, 2);
    }

    private static void noTrap(String what, EmitDesk desk, int done, int stack) {
        for (int way = 0; way <= 2; way++) {
            int tried = way;
            Check.sameAnswer(what + ", way " + way, () -> desk.call(tried, 49), () -> 0);
            Check.told(what + ", way " + way, desk, done, stack, 0, 0, 0);
        }
    }

    private static void oneTooMany(String what, EmitDesk desk) {
        for (int way = 0; way <= 2; way++) {
            int tried = way;
            Check.refused(what + ", way " + way, Check.TRAP, () -> desk.call(tried, 49));
            Check.told(what + ", way " + way, desk, 400, 0, 0, 0, 1);
        }
    }

    /** "A TRAP is: more than 400 INSTRUCTIONS". The 401st is one, whatever it would do, and is not done. */
    private static void tooManyInstructions() {
        for (int op = 0; op <= 18; op++) {
            EmitDesk desk = does396();
            Check.repeat(desk, 4, 0, 5);
            Check.code(desk, op, 0);
            oneTooMany(op + " as the 401st", desk);
            Check.cells(op + " as the 401st", desk, 0, 0, 0, 0);
            Check.pairs(op + " as the 401st", desk);
        }
        EmitDesk back = does396();
        Check.repeat(back, 3, 0, 5);
        back.code(15, 12);
        oneTooMany("the 400th goes back", back);
        oneTooMany("on one place", Check.desk(15, 0));
        oneTooMany("a ring", Check.desk(0, 3, 5, 2, 15, 0));
    }

    private static void theLastOneThatIsAllowed() {
        EmitDesk steps = does396();
        Check.repeat(steps, 3, 0, 5);
        noTrap("399", steps, 399, 3);
        steps.code(0, 5);
        noTrap("400", steps, 400, 4);
        EmitDesk ends = does396();
        Check.repeat(ends, 3, 0, 5);
        Check.code(ends, 18, 0, 9, 0);
        noTrap("18 as the 400th", ends, 400, 3);
        EmitDesk goes = does396();
        Check.repeat(goes, 3, 0, 5);
        Check.code(goes, 15, 15, 9, 0);
        noTrap("15 to the end as the 400th", goes, 400, 3);
        EmitDesk goesIfZero = does396();
        Check.repeat(goesIfZero, 3, 0, 0);
        Check.code(goesIfZero, 16, 15, 9, 0);
        noTrap("16 to the end as the 400th", goesIfZero, 400, 2);
        EmitDesk trapped = does396();
        Check.code(trapped, 0, 1, 0, 2, 0, 0, 9, 0);
        oneTooMany("a TRAP of its own as the 400th", trapped);
    }

    /** "/ by 0". */
    private static void byZero() {
        for (long lower : new long[] {5, 0, -1, Long.MIN_VALUE, Long.MAX_VALUE}) {
            for (int way = 0; way <= 2; way++) {
                EmitDesk desk = Check.desk(0, 9, 0, lower, 0, 0, 9, 0, 18, 0);
                trap(lower + " / 0, way " + way, desk, way, 4, 0, 0);
            }
        }
    }

    private static EmitDesk withOnStack(int count) {
        EmitDesk desk = new EmitDesk();
        Check.repeat(desk, count, 0, 5);
        return desk;
    }

    /** "a stack too full": each INSTRUCTION that pushes has a TRAP on twelve longs, and none on eleven. */
    private static void tooFull() {
        for (int op : new int[] {0, 1, 2, 3, 4, 12}) {
            for (int way = 0; way <= 2; way++) {
                EmitDesk eleven = withOnStack(11);
                eleven.value(4);
                eleven.code(op, 0);
                Check.same(op + " on eleven, way " + way, eleven.call(way, 0), 0);
                Check.told(op + " on eleven, way " + way, eleven, 12, 12, 0, op == 2 && way != 0 ? 1 : 0, 0);
                EmitDesk twelve = withOnStack(12);
                twelve.value(4);
                twelve.code(op, 0);
                trap(op + " on twelve, way " + way, twelve, way, 13, 0, 0);
            }
        }
    }

    /** Each INSTRUCTION that pops as much as it pushes, or more, may be done on twelve longs. */
    private static void fullIsNoTrap() {
        int[] ops = {5, 6, 7, 8, 9, 10, 11, 13, 14, 15, 16, 18};
        int[] left = {11, 11, 11, 11, 11, 11, 11, 11, 12, 12, 11, 12};
        for (int i = 0; i < ops.length; i++) {
            EmitDesk desk = withOnStack(12);
            // A goal is the end then; 5 has none.
            desk.code(ops[i], ops[i] == 5 ? 0 : 13);
            noTrap(ops[i] + " on twelve", desk, 13, left[i]);
        }
        noTrap("twelve", withOnStack(12), 12, 12);
        EmitDesk emits = withOnStack(12);
        emits.code(17, 0);
        for (int way = 0; way <= 2; way++) {
            Check.same("17 on twelve, way " + way, emits.call(way, 6), 1);
            Check.told("17 on twelve, way " + way, emits, 13, way == 1 ? 11 : 10, 1, 0, 0);
        }
    }

    /** The document leaves open whether a VALUE was taken that found no room on the stack: here it was not. */
    private static void tooFullForAValue() {
        for (int way = 1; way <= 2; way++) {
            EmitDesk desk = new EmitDesk();
            Check.valuesTo(desk, 14);
            Check.repeat(desk, 13, 2, 0);
            trap("a thirteenth VALUE, way " + way, desk, way, 13, 0, 12);
        }
    }

    /** How many longs an INSTRUCTION needs on the stack. */
    private static int needs(int op, int way) {
        switch (op) {
            case 5: case 12: case 13: case 16:
                return 1;
            case 6: case 7: case 8: case 9: case 10: case 11: case 14:
                return 2;
            case 17:
                return way == 1 ? 1 : 2;
            default:
                return 0;
        }
    }

    /** "or too empty": with none, and with one where two are needed. */
    private static void tooEmpty() {
        for (int op = 0; op <= 18; op++) {
            for (int way = 0; way <= 2; way++) {
                for (int count = 0; count < needs(op, way); count++) {
                    EmitDesk desk = withOnStack(count);
                    desk.code(op, 0);
                    trap(op + " with " + count + ", way " + way, desk, way, count + 1, 0, 0);
                    Check.cells(op + " with " + count + ", way " + way, desk, 0, 0, 0, 0);
                    Check.pairs(op + " with " + count + ", way " + way, desk);
                }
            }
        }
    }

    private static void justEnoughIsNoTrap() {
        for (int op = 0; op <= 18; op++) {
            for (int way = 0; way <= 2; way++) {
                EmitDesk desk = withOnStack(needs(op, way));
                desk.value(3);
                // Goes to the INSTRUCTION behind it, which is the end.
                desk.code(op, op == 15 || op == 16 ? needs(op, way) + 1 : 0);
                int tried = way;
                Check.sameAnswer(op + " with enough, way " + way, () -> desk.call(tried, 0), () -> desk.told(2));
                Check.same(op + " with enough, way " + way, desk.told(4), 0);
            }
        }
    }

    /** "2 without such a one": in way 0 without any VALUE. */
    private static void noFirstValue() {
        trap("2 without VALUES, way 0", Check.desk(2, 0), 0, 1, 0, 0);
        EmitDesk emptied = Check.desk(2, 0);
        emptied.value(5);
        Check.same("2 with one, way 0", emptied.call(0, 0), 0);
        emptied.empty();
        trap("2 without VALUES again, way 0", emptied, 0, 1, 0, 0);
    }

    /** "2 without such a one": in ways 1 and 2 behind the last VALUE. */
    private static void noNextValue() {
        for (int way = 1; way <= 2; way++) {
            trap("2 without VALUES, way " + way, Check.desk(2, 0), way, 1, 0, 0);
            for (int count = 1; count <= 11; count++) {
                EmitDesk desk = new EmitDesk();
                Check.valuesTo(desk, count);
                Check.repeat(desk, count, 2, 0);
                Check.same("all of " + count + ", way " + way, desk.call(way, 0), 0);
                Check.told("all of " + count + ", way " + way, desk, count, count, 0, count, 0);
                desk.code(2, 0);
                trap("one more than " + count + ", way " + way, desk, way, count + 1, 0, count);
            }
            EmitDesk forty = Check.desk(2, 0, 13, 0, 15, 0);
            Check.valuesTo(forty, 40);
            trap("one more than 40, way " + way, forty, way, 121, 0, 40);
        }
    }

    /** "a fifth EMIT": four are none, and the fifth is not emitted. */
    private static void fifthEmit() {
        EmitDesk desk = new EmitDesk();
        for (int i = 0; i < 4; i++) {
            Check.code(desk, 0, i, 0, 10 + i, 17, 0);
        }
        for (int way = 0; way <= 2; way++) {
            Check.same("four pairs, way " + way, desk.call(way, KEY), 4);
            Check.same("four pairs, way " + way, desk.told(4), 0);
        }
        Check.code(desk, 0, 4, 0, 14, 17, 0, 18, 0);
        trap("fifth EMIT, way 0", desk, 0, 15, 4, 0);
        Check.pairs("fifth EMIT, way 0", desk, 0, 10, 1, 11, 2, 12, 3, 13);
        trap("fifth EMIT, way 1", desk, 1, 15, 4, 0);
        Check.pairs("fifth EMIT, way 1", desk, KEY, 10, KEY, 11, KEY, 12, KEY, 13);
        trap("fifth EMIT, way 2", desk, 2, 15, 4, 0);
        Check.pairs("fifth EMIT, way 2", desk, 0, 10, 1, 11, 2, 12, 3, 13);
    }

    /** Ends of PROGRAMS that have a TRAP each, of every kind, on a stack with at most one long and without VALUES. */
    private static final long[][] KINDS = {
        {15, 0},
        {0, 1, 0, 0, 9, 0},
        {0, 1, 0, 2, 0, 3, 0, 4, 0, 5, 0, 6, 0, 7, 0, 8, 0, 9, 0, 10, 0, 11, 0, 12, 0, 13},
        {13, 0, 13, 0},
        {2, 0},
        {1, 0, 1, 0, 17, 0, 1, 0, 1, 0, 17, 0, 1, 0, 1, 0, 17, 0, 1, 0, 1, 0, 17, 0},
    };

    /** A PROGRAM that fills the CELLS with 6 to 9, emits the KEY with 3, and then has a TRAP of that kind. */
    private static EmitDesk emitsAndTraps(long[] kind) {
        EmitDesk desk = Check.desk(0, 6, 5, 0, 0, 7, 5, 1, 0, 8, 5, 2, 0, 9, 5, 3, 1, 0, 0, 3, 17, 0);
        if (kind[0] == 15) {
            desk.code(15, 11);
        } else {
            Check.code(desk, kind);
        }
        return desk;
    }

    /** "what was emitted before it ... stay then": for each kind of TRAP. */
    private static void whatWasEmittedStays() {
        for (int i = 0; i < KINDS.length; i++) {
            for (int way = 0; way <= 2; way++) {
                EmitDesk desk = emitsAndTraps(KINDS[i]);
                int tried = way;
                Check.refused("kind " + i + ", way " + way, Check.TRAP, () -> desk.call(tried, KEY));
                boolean fifth = i == KINDS.length - 1;
                Check.same("pairs of kind " + i + ", way " + way, desk.told(2), fifth ? 4 : 1);
                if (fifth) {
                    Check.pairs("kind " + i, desk, KEY, 3, KEY, KEY, KEY, KEY, KEY, KEY);
                } else {
                    Check.pairs("kind " + i, desk, KEY, 3);
                }
            }
        }
    }

    /** "and the CELLS, stay then": for each kind of TRAP; and one that a TRAP kept from being popped into. */
    private static void cellsStay() {
        for (int i = 0; i < KINDS.length; i++) {
            for (int way = 0; way <= 2; way++) {
                EmitDesk desk = emitsAndTraps(KINDS[i]);
                int tried = way;
                Check.refused("kind " + i + ", way " + way, Check.TRAP, () -> desk.call(tried, KEY));
                Check.cells("kind " + i + ", way " + way, desk, 6, 7, 8, 9);
            }
        }
        for (int k = 0; k <= 3; k++) {
            EmitDesk desk = Check.desk(0, 6, 5, 0, 0, 7, 5, 1, 0, 8, 5, 2, 0, 9, 5, 3, 5, k);
            trap("5 with " + k + " on an empty stack", desk, 0, 9, 0, 0);
            Check.cells("5 with " + k + " on an empty stack", desk, 6, 7, 8, 9);
        }
    }

    private static void nothingIsDoneBehindIt() {
        for (int i = 1; i < KINDS.length; i++) {
            for (int way = 0; way <= 2; way++) {
                EmitDesk desk = emitsAndTraps(KINDS[i]);
                int tried = way;
                Check.refused("kind " + i, Check.TRAP, () -> desk.call(tried, KEY));
                int done = desk.told(0);
                Check.code(desk, 0, 44);
                Check.refused("kind " + i, Check.TRAP, () -> desk.call(tried, KEY));
                Check.told("one more behind kind " + i, desk, done, 0);
                Check.cells("one more behind kind " + i, desk, 6, 7, 8, 9);
            }
        }
        EmitDesk cell = Check.desk(13, 0, 0, 1, 5, 0, 1, 0, 1, 0, 17, 0);
        trap("with more behind it", cell, 0, 1, 0, 0);
        Check.cells("with more behind it", cell, 0, 0, 0, 0);
        Check.pairs("with more behind it", cell);
    }

    private static void programAndValuesStay() {
        EmitDesk desk = Check.desk(2, 0, 5, 1, 2, 0, 5, 3, 4, 1, 4, 3, 17, 0, 5, 1);
        Check.values(desk, 21, 22, 23);
        for (int i = 0; i < 2; i++) {
            trap("5 on an empty stack", desk, 2, 8, 1, 2);
            Check.pairs("5 on an empty stack", desk, 21, 22);
            Check.cells("5 on an empty stack", desk, 0, 21, 0, 22);
        }
        Check.same("the PROGRAM stays", desk.clear(), 8);
        Check.same("VALUES stay", desk.empty(), 3);
    }

    private static void theNextCallIsFresh() {
        EmitDesk desk = Check.desk(1, 0, 16, 4, 0, 3, 18, 0, 0, 6, 12, 0, 5, 2, 12, 0, 17, 0, 13, 0);
        Check.refused("with a TRAP", Check.TRAP, () -> desk.call(0, 0));
        Check.told("with a TRAP", desk, 8, 0, 1, 0, 1);
        Check.pairs("with a TRAP", desk, 6, 6);
        Check.cells("with a TRAP", desk, 0, 0, 6, 0);
        Check.same("without", desk.call(0, 1), 0);
        Check.told("without", desk, 4, 1, 0, 0, 0);
        Check.cells("without", desk, 0, 0, 0, 0);
        Check.pairs("without", desk);
    }
}
