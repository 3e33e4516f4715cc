/** Promise 6: what each INSTRUCTION does when there is no TRAP. */
public final class InstructionTest {
    private static final long MIN = Long.MIN_VALUE;
    private static final long MAX = Long.MAX_VALUE;

    public static void main(String[] args) {
        pushes();
        valuesInEachWay();
        nextInEachWay();
        cells();
        twoNumbers();
        stackMoves();
        goes();
        emits();
        ends();
        Check.end();
    }

    private static void pushes() {
        EmitDesk desk = Check.desk(0, MIN, 1, 0, 17, 0, 0, MAX, 0, -1, 17, 0, 0, 1);
        Check.same("pushes", desk.call(0, MAX), 2);
        Check.pairs("pushes", desk, MIN, MAX, MAX, -1);
        Check.told("pushes", desk, 7, 1, 2, 0, 0);
    }

    private static void valuesInEachWay() {
        EmitDesk desk = Check.desk(2, 0, 5, 0, 2, 0, 5, 1, 2, 0, 5, 2);
        Check.values(desk, 11, 22, 33, 44);
        Check.same("way 0", desk.call(0, 0), 0);
        Check.cells("way 0 the first one each time", desk, 11, 11, 11, 0);
        Check.told("way 0", desk, 6, 0, 0, 0, 0);
        for (int way = 1; way <= 2; way++) {
            Check.same("way " + way, desk.call(way, 0), 0);
            Check.cells("way " + way + " the next one each time", desk, 11, 22, 33, 0);
            Check.told("way " + way, desk, 6, 0, 0, 3, 0);
        }
        EmitDesk single = Check.desk(2, 0, 2, 0, 2, 0);
        single.value(5);
        Check.same("way 0 takes one as often as one likes", single.call(0, 0), 0);
        Check.told("way 0 takes one as often as one likes", single, 3, 3, 0, 0, 0);
    }

    private static void nextInEachWay() {
        EmitDesk desk = Check.desk(3, 0, 5, 0, 2, 0, 13, 0, 3, 0, 5, 1, 2, 0, 13, 0, 3, 0, 5, 2);
        Check.values(desk, 7, 0);
        desk.call(0, 0);
        Check.cells("way 0 has never a next one", desk, 0, 0, 0, 0);
        for (int way = 1; way <= 2; way++) {
            desk.call(way, 0);
            Check.cells("way " + way + " has a next one twice", desk, 1, 1, 0, 0);
        }
        desk.clear();
        desk.empty();
        Check.code(desk, 3, 0, 5, 3);
        for (int way = 0; way <= 2; way++) {
            Check.same("3 without VALUES is no TRAP", desk.call(way, 0), 0);
            Check.cells("way " + way + " has none without VALUES", desk, 0, 0, 0, 0);
        }
    }

    private static void cells() {
        EmitDesk desk = Check.desk(0, 5, 5, 0, 0, 6, 5, 1, 0, 7, 5, 2, 0, 8, 5, 3, 4, 0, 4, 3, 17, 0, 4, 1, 4, 2, 17, 0);
        Check.same("cells", desk.call(2, 0), 2);
        Check.cells("cells", desk, 5, 6, 7, 8);
        Check.pairs("cells", desk, 5, 8, 6, 7);
        desk.clear();
        Check.code(desk, 4, 0, 4, 1, 17, 0, 4, 2, 4, 3, 17, 0);
        Check.same("cells are 0 when a call begins", desk.call(2, 0), 2);
        Check.pairs("cells are 0 when a call begins", desk, 0, 0, 0, 0);
    }

    private static void twoNumbers() {
        gives(6, 5, 3, 8);
        gives(6, MAX, 1, MIN);
        gives(7, 5, 3, 2);
        gives(7, MIN, 1, MAX);
        gives(8, -5, 3, -15);
        gives(8, MAX, 2, -2);
        gives(8, 1L << 32, 1L << 32, 0);
        gives(9, 7, 2, 3);
        gives(9, -7, 2, -3);
        gives(9, 7, -2, -3);
        gives(9, -7, -2, 3);
        gives(9, 0, 5, 0);
        gives(9, MIN, -1, MIN);
        gives(10, 2, 3, 1);
        gives(10, 3, 2, 0);
        gives(10, 3, 3, 0);
        gives(10, MIN, MAX, 1);
        gives(10, MAX, MIN, 0);
        gives(11, 3, 3, 1);
        gives(11, 3, 4, 0);
        gives(11, 4, 3, 0);
        gives(11, 1, 1 + (1L << 32), 0);
    }

    private static void gives(int op, long lower, long upper, long due) {
        EmitDesk desk = Check.desk(0, lower, 0, upper, op, 0, 5, 2);
        String what = lower + " " + upper + " instruction " + op;
        Check.same(what, desk.call(0, 0), 0);
        Check.cells(what, desk, 0, 0, due, 0);
        Check.told(what, desk, 4, 0, 0, 0, 0);
    }

    private static void stackMoves() {
        EmitDesk desk = Check.desk(0, 6, 12, 0, 17, 0, 0, 1, 0, 2, 14, 0, 17, 0, 0, 3, 0, 4, 13, 0, 0, 5, 17, 0);
        Check.same("moves", desk.call(0, 0), 3);
        Check.pairs("moves", desk, 6, 6, 2, 1, 3, 5);
        Check.told("moves", desk, 12, 0, 3, 0, 0);
    }

    private static void goes() {
        EmitDesk over = Check.desk(15, 2, 9, 0, 0, 4, 5, 0);
        Check.same("15 goes over one", over.call(0, 0), 0);
        Check.told("15 goes over one", over, 3, 0, 0, 0, 0);
        Check.cells("15 goes over one", over, 4, 0, 0, 0);

        EmitDesk zero = Check.desk(1, 0, 16, 4, 0, 1, 5, 0, 0, 1, 5, 1);
        zero.call(0, 0);
        Check.cells("16 goes if 0 is popped", zero, 0, 1, 0, 0);
        Check.told("16 goes if 0 is popped", zero, 4, 0, 0, 0, 0);
        for (long key : new long[] {1, -1, 1L << 32, MIN}) {
            zero.call(0, key);
            Check.cells("16 stays for " + key, zero, 1, 1, 0, 0);
            Check.told("16 stays for " + key, zero, 6, 0, 0, 0, 0);
        }

        EmitDesk back = Check.desk(4, 0, 0, 1, 6, 0, 12, 0, 5, 0, 0, 3, 11, 0, 16, 0);
        back.call(0, 0);
        Check.cells("16 goes back", back, 3, 0, 0, 0);
        Check.told("16 goes back", back, 24, 0, 0, 0, 0);
    }

    private static void emits() {
        EmitDesk desk = Check.desk(0, 8, 0, 9, 17, 0);
        for (int way = 0; way <= 2; way += 2) {
            Check.same("way " + way + " pops two", desk.call(way, 5), 1);
            Check.pairs("way " + way + " pops two", desk, 8, 9);
            Check.told("way " + way + " pops two", desk, 3, 0, 1, 0, 0);
        }
        Check.same("way 1 pops one", desk.call(1, 5), 1);
        Check.pairs("way 1 pops one", desk, 5, 9);
        Check.told("way 1 pops one", desk, 3, 1, 1, 0, 0);

        EmitDesk single = Check.desk(0, 9, 17, 0);
        Check.same("way 1 needs one alone", single.call(1, -5), 1);
        Check.pairs("way 1 needs one alone", single, -5, 9);
    }

    private static void ends() {
        EmitDesk desk = Check.desk(0, 1, 18, 0, 9, 0);
        Check.same("18 ends", desk.call(0, 0), 0);
        Check.told("18 ends", desk, 2, 1, 0, 0, 0);
        EmitDesk end = Check.desk(0, 1, 15, 3, 9, 0);
        Check.same("15 goes to the end", end.call(0, 0), 0);
        Check.told("15 goes to the end", end, 2, 1, 0, 0, 0);
    }
}
