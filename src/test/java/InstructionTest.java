/** Terms: what each INSTRUCTION does where there is no TRAP. Each method's comment tells the words that it tests. */
public final class InstructionTest {
    private static final long MIN = Long.MIN_VALUE;
    private static final long MAX = Long.MAX_VALUE;

    public static void main(String[] args) {
        pushesNumber();
        pushesKey();
        firstValueInWay0();
        nextValueInWays1And2();
        isThereANextOne();
        neverANextOneInWay0();
        pushesCell();
        popsIntoCell();
        adds();
        subtracts();
        multiplies();
        dividesAndCuts();
        less();
        theSame();
        doubles();
        drops();
        changesTheTwoTopOnes();
        goes();
        goesIf0IsPopped();
        emitsWithTheKeyInWay1();
        emitsTwoThatArePoppedElse();
        ends();
        soDoesTheEnd();
        Check.end();
    }

    /** "0 pushes A": any long. */
    private static void pushesNumber() {
        for (long a : new long[] {0, 1, -1, 1L << 32, MIN, MAX}) {
            EmitDesk desk = Check.desk(0, a, 5, 0);
            Check.same("0 with " + a, desk.call(0, 9), 0);
            Check.cells("0 with " + a, desk, a, 0, 0, 0);
        }
    }

    /** "1 the KEY": whatever its A is. */
    private static void pushesKey() {
        EmitDesk desk = Check.desk(1, 5, 1, MIN, 17, 0);
        for (long key : new long[] {0, 1, -1, 1L << 32, MIN, MAX}) {
            for (int way = 0; way <= 2; way++) {
                Check.same("1 with the KEY " + key, desk.call(way, key), 1);
                Check.pairs("1 with the KEY " + key, desk, key, key);
            }
        }
    }

    /** "2 a VALUE: in way 0 the first one (as often as one likes)". */
    private static void firstValueInWay0() {
        for (int count : new int[] {1, 2, 40}) {
            EmitDesk desk = new EmitDesk();
            Check.valuesTo(desk, count);
            Check.repeat(desk, 12, 2, 7);
            Check.same("twelve times", desk.call(0, 0), 0);
            Check.told("twelve times", desk, 12, 12, 0, 0, 0);
            Check.repeat(desk, 11, 6, 0);
            desk.code(5, 0);
            Check.same("their sum", desk.call(0, 0), 0);
            Check.cells("their sum", desk, 12, 0, 0, 0);
        }
        // More often than there can be VALUES: 150 times, until there were too many INSTRUCTIONS.
        EmitDesk often = Check.desk(2, 0, 13, 0, 2, 0, 13, 0, 2, 0, 13, 0, 3, 0, 16, 0);
        often.value(3);
        Check.refused("150 times", Check.TRAP, () -> often.call(0, 0));
        Check.told("150 times", often, 400, 0, 0, 0, 1);
    }

    /** "in ways 1 and 2 the next one": from the first to the last. */
    private static void nextValueInWays1And2() {
        EmitDesk desk = Check.desk(2, 9, 5, 0, 2, 9, 5, 1, 2, 9, 5, 2, 2, 9, 5, 3);
        Check.values(desk, MIN, 0, 33, MAX);
        for (int way = 1; way <= 2; way++) {
            Check.same("way " + way, desk.call(way, 0), 0);
            Check.cells("way " + way, desk, MIN, 0, 33, MAX);
            Check.told("way " + way, desk, 8, 0, 0, 4, 0);
        }
    }

    /** "3 1 if there is a next one, else 0": before the last one is taken, and behind it. */
    private static void isThereANextOne() {
        EmitDesk desk = Check.desk(3, 0, 5, 0, 2, 0, 13, 0, 3, 0, 3, 0, 6, 0, 5, 1, 2, 0, 13, 0, 3, 0, 5, 2);
        Check.values(desk, 7, 0);
        for (int way = 1; way <= 2; way++) {
            Check.same("way " + way, desk.call(way, 0), 0);
            Check.cells("of two, way " + way, desk, 1, 2, 0, 0);
            Check.told("3 takes none, way " + way, desk, 12, 0, 0, 2, 0);
        }
        EmitDesk without = Check.desk(0, 6, 5, 3, 3, 0, 5, 3);
        for (int way = 0; way <= 2; way++) {
            Check.same("3 without VALUES is no TRAP", without.call(way, 0), 0);
            Check.cells("3 without VALUES", without, 0, 0, 0, 0);
        }
        // Takes VALUES as long as there is a next one.
        EmitDesk all = Check.desk(3, 0, 16, 5, 2, 0, 13, 0, 15, 0);
        Check.valuesTo(all, 40);
        for (int way = 1; way <= 2; way++) {
            Check.same("all forty", all.call(way, 0), 0);
            Check.told("all forty", all, 202, 0, 0, 40, 0);
        }
    }

    /** "(in way 0 always 0)". */
    private static void neverANextOneInWay0() {
        EmitDesk desk = Check.desk(0, 5, 5, 0, 0, 5, 5, 1, 3, 0, 5, 0, 2, 0, 13, 0, 3, 0, 5, 1);
        Check.valuesTo(desk, 40);
        Check.same("way 0", desk.call(0, 0), 0);
        Check.cells("way 0", desk, 0, 0, 0, 0);
    }

    /** "4 pushes CELL A": the first and the last, and they stay as they are. */
    private static void pushesCell() {
        for (int k = 0; k <= 3; k++) {
            EmitDesk desk = Check.desk(0, MIN, 5, 0, 0, 6, 5, 1, 0, 7, 5, 2, 0, MAX, 5, 3, 4, k, 4, k, 17, 0);
            long due = new long[] {MIN, 6, 7, MAX}[k];
            Check.same("4 with " + k, desk.call(2, 0), 1);
            Check.pairs("4 with " + k, desk, due, due);
            Check.cells("4 with " + k, desk, MIN, 6, 7, MAX);
        }
    }

    /** "5 pops it": that one alone. */
    private static void popsIntoCell() {
        for (int k = 0; k <= 3; k++) {
            EmitDesk desk = Check.desk(0, 4, 0, MIN, 5, k);
            long[] due = new long[4];
            due[k] = MIN;
            Check.same("5 with " + k, desk.call(1, 0), 0);
            Check.cells("5 with " + k, desk, due);
            Check.told("5 with " + k, desk, 3, 1, 0, 0, 0);
            desk.code(5, k);
            due[k] = 4;
            Check.same("5 with " + k + " again", desk.call(1, 0), 0);
            Check.cells("5 with " + k + " again", desk, due);
        }
    }

    /** "6 +": longs wrap around. */
    private static void adds() {
        gives(6, 5, 3, 8);
        gives(6, MAX, 0, MAX);
        gives(6, MAX, 1, MIN);
        gives(6, MIN, -1, MAX);
        gives(6, MAX, MAX, -2);
        gives(6, MIN, MIN, 0);
        gives(6, Integer.MAX_VALUE, 1, 1L << 31);
    }

    /** "7 -": the upper one from the lower one; longs wrap around. */
    private static void subtracts() {
        gives(7, 5, 3, 2);
        gives(7, 3, 5, -2);
        gives(7, MIN, 0, MIN);
        gives(7, MIN, 1, MAX);
        gives(7, MAX, -1, MIN);
        gives(7, 0, MIN, MIN);
        gives(7, MAX, MIN, -1);
    }

    /** "8 *": longs wrap around. */
    private static void multiplies() {
        gives(8, -5, 3, -15);
        gives(8, MAX, 0, 0);
        gives(8, MAX, 2, -2);
        gives(8, MIN, -1, MIN);
        gives(8, -1, MIN, MIN);
        gives(8, MIN, 2, 0);
        gives(8, MAX, MAX, 1);
        gives(8, 1L << 32, 1L << 32, 0);
        gives(8, 1L << 31, 1L << 31, 1L << 62);
    }

    /** "9 / (cut)": towards 0 on either side, the lower one by the upper one; the least by -1 wraps around. */
    private static void dividesAndCuts() {
        gives(9, 7, 2, 3);
        gives(9, -7, 2, -3);
        gives(9, 7, -2, -3);
        gives(9, -7, -2, 3);
        gives(9, 2, 7, 0);
        gives(9, -1, 2, 0);
        gives(9, 1, -2, 0);
        gives(9, 0, 5, 0);
        gives(9, 0, -1, 0);
        gives(9, MIN, 1, MIN);
        gives(9, MIN, -1, MIN);
        gives(9, MAX, -1, -MAX);
        gives(9, MIN, MIN, 1);
        gives(9, MAX, MIN, 0);
        gives(9, MIN, MAX, -1);
        gives(9, MIN, 2, -(1L << 62));
    }

    /** "10 1 if the lower one is less, else 0". */
    private static void less() {
        gives(10, 2, 3, 1);
        gives(10, 3, 3, 0);
        gives(10, 3, 2, 0);
        gives(10, -1, 0, 1);
        gives(10, 0, -1, 0);
        gives(10, MIN, MAX, 1);
        gives(10, MAX, MIN, 0);
        gives(10, MIN, MIN, 0);
        gives(10, MIN, MIN + 1, 1);
        gives(10, MAX, MAX, 0);
        gives(10, MAX - 1, MAX, 1);
        gives(10, 1L << 32, 1, 0);
    }

    /** "11 1 if they are the same, else 0". */
    private static void theSame() {
        gives(11, 3, 3, 1);
        gives(11, 3, 4, 0);
        gives(11, 4, 3, 0);
        gives(11, 0, 0, 1);
        gives(11, 1, -1, 0);
        gives(11, MIN, MIN, 1);
        gives(11, MAX, MAX, 1);
        gives(11, MIN, MAX, 0);
        gives(11, 1, 1 + (1L << 32), 0);
    }

    private static void gives(int op, long lower, long upper, long due) {
        // A third one lies below: just two are popped.
        EmitDesk desk = Check.desk(0, 99, 0, lower, 0, upper, op, 0, 5, 2);
        String what = lower + " " + upper + " instruction " + op;
        for (int way = 0; way <= 2; way++) {
            int tried = way;
            Check.sameAnswer(what, () -> desk.call(tried, 0), () -> 0);
            Check.cells(what, desk, 0, 0, due, 0);
            Check.told(what, desk, 5, 1, 0, 0, 0);
        }
    }

    /** "12 doubles": the top one, which then lies there twice. */
    private static void doubles() {
        EmitDesk desk = Check.desk(0, 8, 0, MIN, 12, 0, 5, 0, 5, 1, 5, 2);
        Check.same("12", desk.call(0, 0), 0);
        Check.cells("12", desk, MIN, MIN, 8, 0);
        Check.told("12", desk, 6, 0, 0, 0, 0);
        EmitDesk last = new EmitDesk();
        Check.repeat(last, 11, 0, 4);
        last.code(12, 0);
        Check.same("12 to the twelfth place", last.call(0, 0), 0);
        Check.told("12 to the twelfth place", last, 12, 12, 0, 0, 0);
    }

    /** "13 drops": the top one alone, the last one too. */
    private static void drops() {
        EmitDesk desk = Check.desk(0, 3, 0, 4, 13, 0, 5, 0);
        Check.same("13", desk.call(0, 0), 0);
        Check.cells("13", desk, 3, 0, 0, 0);
        EmitDesk last = Check.desk(0, 3, 13, 0);
        Check.same("13 of one", last.call(0, 0), 0);
        Check.told("13 of one", last, 2, 0, 0, 0, 0);
    }

    /** "14 changes the two top ones": those below them stay where they are. */
    private static void changesTheTwoTopOnes() {
        EmitDesk desk = Check.desk(0, 1, 0, 2, 0, 3, 14, 0, 5, 0, 5, 1, 5, 2);
        Check.same("14", desk.call(0, 0), 0);
        Check.cells("14", desk, 2, 3, 1, 0);
        EmitDesk two = Check.desk(0, MIN, 0, MAX, 14, 0);
        Check.same("14 of two", two.call(0, 0), 0);
        Check.told("14 of two", two, 3, 2, 0, 0, 0);
        EmitDesk full = new EmitDesk();
        Check.repeat(full, 11, 0, 1);
        Check.code(full, 0, 2, 14, 0);
        Check.same("14 of twelve", full.call(0, 0), 0);
        Check.told("14 of twelve", full, 13, 12, 0, 0, 0);
    }

    /** "15 goes to INSTRUCTION A": the first is 0, the one behind it and the end too; the stack stays. */
    private static void goes() {
        EmitDesk over = Check.desk(0, 8, 15, 3, 9, 0, 0, 4, 5, 0);
        Check.same("15 goes over one", over.call(0, 0), 0);
        Check.told("15 goes over one", over, 4, 1, 0, 0, 0);
        Check.cells("15 goes over one", over, 4, 0, 0, 0);
        EmitDesk next = Check.desk(15, 1, 15, 2, 0, 4, 5, 0);
        Check.same("15 goes to the next one", next.call(0, 0), 0);
        Check.told("15 goes to the next one", next, 4, 0, 0, 0, 0);
        EmitDesk first = Check.desk(4, 0, 16, 3, 18, 0, 0, 1, 5, 0, 15, 0);
        Check.same("15 goes to the first one", first.call(0, 0), 0);
        Check.told("15 goes to the first one", first, 8, 0, 0, 0, 0);
        EmitDesk last = new EmitDesk();
        last.code(15, 39);
        Check.repeat(last, 38, 9, 0);
        last.code(1, 0);
        Check.same("15 goes to the fortieth", last.call(0, 0), 0);
        Check.told("15 goes to the fortieth", last, 2, 1, 0, 0, 0);
    }

    /** "16 so if 0 is popped": it is popped if it is not 0, too. */
    private static void goesIf0IsPopped() {
        EmitDesk desk = Check.desk(0, 8, 1, 0, 16, 5, 0, 1, 5, 0, 0, 1, 5, 1);
        Check.same("16 goes for 0", desk.call(0, 0), 0);
        Check.cells("16 goes for 0", desk, 0, 1, 0, 0);
        Check.told("16 goes for 0", desk, 5, 1, 0, 0, 0);
        for (long key : new long[] {1, -1, 1L << 32, MIN, MAX}) {
            Check.same("16 stays for " + key, desk.call(0, key), 0);
            Check.cells("16 stays for " + key, desk, 1, 1, 0, 0);
            Check.told("16 stays for " + key, desk, 7, 1, 0, 0, 0);
        }
        EmitDesk back = Check.desk(4, 0, 0, 1, 6, 0, 12, 0, 5, 0, 0, 3, 11, 0, 16, 0);
        Check.same("16 goes back", back.call(0, 0), 0);
        Check.cells("16 goes back", back, 3, 0, 0, 0);
        Check.told("16 goes back", back, 24, 0, 0, 0, 0);
    }

    /** "17 emits a pair: in way 1 the KEY with what is popped as its VALUE". */
    private static void emitsWithTheKeyInWay1() {
        EmitDesk single = Check.desk(0, MIN, 17, 0);
        Check.same("way 1 needs one alone", single.call(1, MAX), 1);
        Check.pairs("way 1 needs one alone", single, MAX, MIN);
        Check.told("way 1 needs one alone", single, 2, 0, 1, 0, 0);
        EmitDesk desk = Check.desk(0, 8, 0, 9, 17, 0, 17, 0);
        Check.same("way 1 pops one each", desk.call(1, -5), 2);
        Check.pairs("way 1 pops one each", desk, -5, 9, -5, 8);
        Check.told("way 1 pops one each", desk, 4, 0, 2, 0, 0);
    }

    /** "else a KEY and (on top) a VALUE that are popped". */
    private static void emitsTwoThatArePoppedElse() {
        EmitDesk desk = Check.desk(0, 7, 0, MIN, 0, MAX, 17, 0);
        for (int way = 0; way <= 2; way += 2) {
            Check.same("way " + way + " pops two", desk.call(way, 5), 1);
            Check.pairs("way " + way + " pops two", desk, MIN, MAX);
            Check.told("way " + way + " pops two", desk, 4, 1, 1, 0, 0);
        }
    }

    /** "18 ends": at once, as the first one and as the last one too. */
    private static void ends() {
        for (int way = 0; way <= 2; way++) {
            EmitDesk first = Check.desk(18, 0, 9, 0);
            Check.same("18 as the first one", first.call(way, 0), 0);
            Check.told("18 as the first one", first, 1, 0, 0, 0, 0);
            EmitDesk within = Check.desk(0, 1, 18, 5, 9, 0);
            Check.same("18 within", within.call(way, 0), 0);
            Check.told("18 within", within, 2, 1, 0, 0, 0);
            EmitDesk last = Check.desk(0, 1, 18, 0);
            Check.same("18 as the last one", last.call(way, 0), 0);
            Check.told("18 as the last one", last, 2, 1, 0, 0, 0);
        }
    }

    /** "so does the end": come to step by step, by 15 or by 16, or there at once. */
    private static void soDoesTheEnd() {
        EmitDesk steps = Check.desk(0, 1, 0, 2);
        Check.same("step by step", steps.call(0, 0), 0);
        Check.told("step by step", steps, 2, 2, 0, 0, 0);
        EmitDesk by15 = Check.desk(0, 1, 15, 3, 9, 0);
        Check.same("by 15", by15.call(0, 0), 0);
        Check.told("by 15", by15, 2, 1, 0, 0, 0);
        EmitDesk by16 = Check.desk(0, 0, 16, 3, 9, 0);
        Check.same("by 16", by16.call(0, 0), 0);
        Check.told("by 16", by16, 2, 0, 0, 0, 0);
        EmitDesk bare = new EmitDesk();
        Check.same("at once", bare.call(0, 0), 0);
        Check.told("at once", bare, 0, 0, 0, 0, 0);
    }
}
