/** Promise 6: each TRAP, and what stays then. */
public final class TrapTest {
    public static void main(String[] args) {
        tooEmpty();
        tooFull();
        byZero();
        noSuchValue();
        fifthEmit();
        tooManyInstructions();
        whatStays();
        theNextCallIsFresh();
        Check.end();
    }

    private static void trap(String what, EmitDesk desk, int way, int done, int pairs, int taken) {
        Check.refused(what, Check.TRAP, () -> desk.call(way, 77));
        Check.told(what, desk, done, 0, pairs, taken, 1);
    }

    private static void tooEmpty() {
        for (int op : new int[] {5, 6, 7, 8, 9, 10, 11, 12, 13, 14, 16, 17}) {
            for (int way = 0; way <= 2; way++) {
                trap(op + " with none, way " + way, Check.desk(op, 0), way, 1, 0, 0);
            }
        }
        for (int op : new int[] {6, 7, 8, 9, 10, 11, 14}) {
            for (int way = 0; way <= 2; way++) {
                trap(op + " with one, way " + way, Check.desk(0, 1, op, 0), way, 2, 0, 0);
            }
        }
        trap("17 with one, way 0", Check.desk(0, 1, 17, 0), 0, 2, 0, 0);
        trap("17 with one, way 2", Check.desk(0, 1, 17, 0), 2, 2, 0, 0);
    }

    private static void tooFull() {
        for (int op : new int[] {0, 1, 2, 3, 4, 12}) {
            for (int way = 0; way <= 2; way++) {
                EmitDesk desk = withTwelve();
                desk.value(4);
                Check.same("twelve are no TRAP", desk.call(way, 0), 0);
                Check.told("twelve are no TRAP", desk, 12, 12, 0, 0, 0);
                desk.code(op, 0);
                trap(op + " on a full stack, way " + way, desk, way, 13, 0, 0);
            }
        }
        for (int op : new int[] {6, 14}) {
            EmitDesk desk = withTwelve();
            desk.code(op, 0);
            Check.same(op + " on a full stack is no TRAP", desk.call(0, 0), 0);
            Check.told(op + " on a full stack is no TRAP", desk, 13, op == 6 ? 11 : 12, 0, 0, 0);
        }
    }

    private static EmitDesk withTwelve() {
        EmitDesk desk = new EmitDesk();
        for (int i = 1; i <= 12; i++) {
            desk.code(0, i);
        }
        return desk;
    }

    private static void byZero() {
        trap("5 / 0", Check.desk(0, 5, 0, 0, 9, 0), 0, 3, 0, 0);
        trap("0 / 0", Check.desk(0, 0, 0, 0, 9, 0), 1, 3, 0, 0);
        trap("least / 0", Check.desk(0, Long.MIN_VALUE, 0, 0, 9, 0, 18, 0), 2, 3, 0, 0);
    }

    private static void noSuchValue() {
        trap("2 without VALUES", Check.desk(2, 0), 0, 1, 0, 0);
        trap("2 without VALUES", Check.desk(2, 0), 1, 1, 0, 0);
        trap("2 without VALUES", Check.desk(2, 0), 2, 1, 0, 0);
        EmitDesk desk = Check.desk(2, 0, 2, 0, 2, 0);
        Check.values(desk, 1, 2);
        trap("third of two", desk, 1, 3, 0, 2);
        trap("third of two", desk, 2, 3, 0, 2);
    }

    private static void fifthEmit() {
        EmitDesk desk = new EmitDesk();
        for (int i = 0; i < 4; i++) {
            Check.code(desk, 0, i, 0, 10 + i, 17, 0);
        }
        for (int way = 0; way <= 2; way++) {
            Check.same("four pairs, way " + way, desk.call(way, 77), 4);
        }
        Check.code(desk, 0, 4, 0, 14, 17, 0, 18, 0);
        trap("fifth EMIT, way 0", desk, 0, 15, 4, 0);
        Check.pairs("fifth EMIT, way 0", desk, 0, 10, 1, 11, 2, 12, 3, 13);
        trap("fifth EMIT, way 1", desk, 1, 15, 4, 0);
        Check.pairs("fifth EMIT, way 1", desk, 77, 10, 77, 11, 77, 12, 77, 13);
        trap("fifth EMIT, way 2", desk, 2, 15, 4, 0);
        Check.pairs("fifth EMIT, way 2", desk, 0, 10, 1, 11, 2, 12, 3, 13);
    }

    /** KEY rounds of eight INSTRUCTIONS, and then some more that push and drop. */
    private static EmitDesk rounds(int more) {
        EmitDesk desk = Check.desk(1, 0, 5, 0, 4, 0, 16, 10, 4, 0, 0, 1, 7, 0, 5, 0, 0, 0, 16, 2);
        for (int i = 0; i < more; i++) {
            desk.code(i % 2 == 0 ? 0 : 13, 0);
        }
        return desk;
    }

    private static void tooManyInstructions() {
        // 2 before, 8 a round, 2 to leave: 4 + 8 * 49 = 396.
        EmitDesk just = rounds(4);
        Check.same("400 are no TRAP", just.call(0, 49), 0);
        Check.told("400 are no TRAP", just, 400, 0, 0, 0, 0);
        EmitDesk over = rounds(5);
        Check.refused("401 are a TRAP", Check.TRAP, () -> over.call(0, 49));
        Check.told("401 are a TRAP", over, 400, 0, 0, 0, 1);

        EmitDesk ended = rounds(3);
        Check.code(ended, 18, 0, 9, 0);
        Check.same("18 as the 400th", ended.call(0, 49), 0);
        Check.told("18 as the 400th", ended, 400, 1, 0, 0, 0);
        EmitDesk late = rounds(4);
        Check.code(late, 18, 0);
        Check.refused("18 as the 401st", Check.TRAP, () -> late.call(0, 49));
        Check.told("18 as the 401st", late, 400, 0, 0, 0, 1);

        EmitDesk last = rounds(4);
        Check.code(last, 9, 0);
        Check.refused("a TRAP as the 401st", Check.TRAP, () -> last.call(0, 49));
        Check.told("a TRAP as the 401st", last, 400, 0, 0, 0, 1);
        EmitDesk trapped = rounds(3);
        Check.code(trapped, 9, 0);
        Check.refused("a TRAP as the 400th", Check.TRAP, () -> trapped.call(0, 49));
        Check.told("a TRAP as the 400th", trapped, 400, 0, 0, 0, 1);

        trap("without an end", Check.desk(0, 3, 5, 2, 15, 0), 0, 400, 0, 0);
        trap("on one place", Check.desk(15, 0), 2, 400, 0, 0);
    }

    private static void whatStays() {
        EmitDesk desk = Check.desk(2, 0, 5, 1, 2, 0, 5, 3, 4, 1, 4, 3, 17, 0, 5, 1);
        Check.values(desk, 21, 22, 23);
        trap("5 on an empty stack", desk, 2, 8, 1, 2);
        Check.pairs("5 on an empty stack", desk, 21, 22);
        Check.cells("5 on an empty stack", desk, 0, 21, 0, 22);
        Check.same("the PROGRAM stays", desk.clear(), 8);
        Check.same("VALUES stay", desk.empty(), 3);
    }

    private static void theNextCallIsFresh() {
        EmitDesk desk = Check.desk(1, 0, 16, 4, 0, 3, 18, 0, 0, 6, 12, 0, 5, 2, 12, 0, 17, 0, 13, 0);
        Check.refused("with a TRAP", Check.TRAP, () -> desk.call(0, 0));
        Check.told("with a TRAP", desk, 8, 0, 1, 0, 1);
        Check.pairs("with a TRAP", desk, 6, 6);
        Check.cells("with a TRAP", desk, 0, 0, 6, 0);
        Check.same("without", desk.call(0, 1), 0);
        Check.told("without", desk, 4, 1, 0, 0, 0);
        Check.cells("without", desk, 0, 0, 0, 0);
        Check.pairs("without", desk);
    }
}
