/** Promise 4. */
public final class ValueTest {
    public static void main(String[] args) {
        fortyAtMost();
        anyLong();
        theLatestCallStays();
        Check.end();
    }

    private static void fortyAtMost() {
        // Sums all VALUES in CELL 0.
        EmitDesk desk = Check.desk(3, 0, 16, 7, 2, 0, 4, 0, 6, 0, 5, 0, 15, 0);
        for (int i = 1; i <= 40; i++) {
            Check.same("value " + i, desk.value(i), i);
        }
        Check.refused("value 41", Check.STATE, () -> desk.value(1000));
        Check.same("call", desk.call(2, 0), 0);
        Check.cells("sum of forty", desk, 820, 0, 0, 0);
        Check.told("sum of forty", desk, 282, 0, 0, 40, 0);
        Check.same("empty()", desk.empty(), 40);
        Check.same("value behind empty()", desk.value(1), 1);
    }

    private static void anyLong() {
        EmitDesk desk = Check.desk(2, 0, 2, 0, 17, 0);
        Check.same("least", desk.value(Long.MIN_VALUE), 1);
        Check.same("most", desk.value(Long.MAX_VALUE), 2);
        Check.same("call", desk.call(2, 0), 1);
        Check.pairs("least and most", desk, Long.MIN_VALUE, Long.MAX_VALUE);
    }

    private static void theLatestCallStays() {
        EmitDesk desk = Check.desk(2, 0, 12, 0, 17, 0);
        desk.value(5);
        desk.call(2, 0);
        desk.value(6);
        Check.told("value behind a call", desk, 3, 0, 1, 1, 0);
        Check.pairs("value behind a call", desk, 5, 5);
        desk.call(2, 0);
        Check.pairs("from the first on again", desk, 5, 5);
    }
}
