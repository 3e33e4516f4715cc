/** Promise 4. Each method's comment tells the words of the document that it tests. */
public final class ValueTest {
    public static void main(String[] args) {
        answersHowMany();
        anyLong();
        fortyAtMost();
        theLatestCallStays();
        Check.end();
    }

    /** "One more VALUE: how many." From the first one to the 40th, and all of them are there, in their order. */
    private static void answersHowMany() {
        // Drops as many VALUES as the KEY says, and pops the next one into CELL 1.
        EmitDesk desk = Check.desk(
                1, 0, 5, 0, 4, 0, 16, 12, 2, 0, 13, 0, 4, 0, 0, 1, 7, 0, 5, 0, 0, 0, 16, 2, 2, 0, 5, 1);
        for (int i = 1; i <= 40; i++) {
            Check.same("value " + i, desk.value(1000 + i), i);
        }
        for (int before = 0; before < 40; before++) {
            Check.same("call", desk.call(2, before), 0);
            Check.cells("VALUE " + before, desk, 0, 1001 + before, 0, 0);
            Check.told("VALUE " + before, desk, 6 + 10 * before, 0, 0, before + 1, 0);
        }
    }

    private static void anyLong() {
        EmitDesk desk = Check.desk(2, 0, 2, 0, 17, 0, 2, 0, 2, 0, 17, 0);
        Check.same("least", desk.value(Long.MIN_VALUE), 1);
        Check.same("most", desk.value(Long.MAX_VALUE), 2);
        Check.same("0", desk.value(0), 3);
        Check.same("the same one again", desk.value(0), 4);
        Check.same("call", desk.call(2, 0), 2);
        Check.pairs("least and most", desk, Long.MIN_VALUE, Long.MAX_VALUE, 0, 0);
    }

    /** "IllegalStateException if there are 40." */
    private static void fortyAtMost() {
        // Sums all VALUES in CELL 0.
        EmitDesk desk = Check.desk(3, 0, 16, 7, 2, 0, 4, 0, 6, 0, 5, 0, 15, 0);
        Check.valuesTo(desk, 39);
        Check.same("value 40", desk.value(40), 40);
        for (long v : new long[] {1000, 0, Long.MIN_VALUE, Long.MAX_VALUE}) {
            Check.refused("value 41", Check.STATE, () -> desk.value(v));
        }
        for (int way = 1; way <= 2; way++) {
            Check.same("call", desk.call(way, 0), 0);
            Check.cells("sum of forty", desk, 820, 0, 0, 0);
            Check.told("sum of forty", desk, 282, 0, 0, 40, 0);
        }
        Check.same("empty()", desk.empty(), 40);
        Check.same("value behind empty()", desk.value(1), 1);
    }

    private static void theLatestCallStays() {
        EmitDesk desk = Check.desk(2, 0, 12, 0, 17, 0);
        desk.value(5);
        desk.call(2, 0);
        desk.value(6);
        Check.told("value behind a call", desk, 3, 0, 1, 1, 0);
        Check.pairs("value behind a call", desk, 5, 5);
    }
}
