/** Promise 6: which calls are refused, and what a call begins with. */
public final class CallTest {
    public static void main(String[] args) {
        otherWays();
        goesBehindTheEnd();
        argumentsComeFirst();
        everyCallBeginsAnew();
        Check.end();
    }

    private static EmitDesk calledOnce() {
        EmitDesk desk = Check.desk(2, 0, 5, 0, 1, 0, 4, 0, 17, 0, 0, 2);
        Check.values(desk, 31, 32);
        Check.same("call", desk.call(2, 6), 1);
        return desk;
    }

    private static void latestStays(String what, EmitDesk desk) {
        Check.told(what, desk, 6, 1, 1, 1, 0);
        Check.cells(what, desk, 31, 0, 0, 0);
        Check.pairs(what, desk, 6, 31);
    }

    private static void otherWays() {
        for (int way : new int[] {-1, 3, 4, Integer.MIN_VALUE, Integer.MAX_VALUE}) {
            EmitDesk desk = calledOnce();
            Check.refused("way " + way, Check.ARGUMENT, () -> desk.call(way, 9));
            latestStays("behind way " + way, desk);
            Check.same("the PROGRAM stays", desk.clear(), 6);
            Check.same("VALUES stay", desk.empty(), 2);
        }
        Check.refused("way 3 of a new one", Check.ARGUMENT, () -> new EmitDesk().call(3, 0));
    }

    private static void goesBehindTheEnd() {
        for (int op = 15; op <= 16; op++) {
            EmitDesk desk = calledOnce();
            // Behind an 18: it counts anywhere in the PROGRAM, done or not.
            Check.code(desk, 18, 0, op, 9);
            for (int way = 0; way <= 2; way++) {
                int tried = way;
                Check.refused(op + " goes behind the end", Check.ARGUMENT, () -> desk.call(tried, 9));
            }
            latestStays("behind " + op + " to 9 of 8", desk);
            desk.code(0, 0);
            Check.same(op + " goes to the end itself", desk.call(2, 6), 1);
            Check.told(op + " goes to the end itself", desk, 7, 1, 1, 1, 0);
        }
        Check.refused("first of all", Check.ARGUMENT, () -> Check.desk(15, 2).call(0, 0));
        Check.same("the end of one", Check.desk(15, 1).call(0, 0), 0);
        EmitDesk full = Check.desk(15, 40);
        for (int i = 1; i < 40; i++) {
            full.code(9, 0);
        }
        Check.same("the end of forty", full.call(0, 0), 0);
        Check.told("the end of forty", full, 1, 0, 0, 0, 0);
        EmitDesk others = Check.desk(0, 41, 13, 99, 18, Long.MAX_VALUE);
        Check.same("the numbers of others are no goals", others.call(0, 0), 0);
    }

    private static void argumentsComeFirst() {
        Check.refused("way 3 before a TRAP", Check.ARGUMENT, () -> Check.desk(13, 0).call(3, 0));
        Check.refused("a goal before a TRAP", Check.ARGUMENT, () -> Check.desk(13, 0, 16, 3).call(0, 0));
    }

    private static void everyCallBeginsAnew() {
        EmitDesk desk = calledOnce();
        for (int i = 0; i < 3; i++) {
            Check.same("again", desk.call(2, 6), 1);
            latestStays("again", desk);
        }
        Check.same("another key and way", desk.call(1, 7), 1);
        Check.pairs("another key and way", desk, 7, 31);
        Check.told("another key and way", desk, 6, 2, 1, 1, 0);
        Check.same("way 0", desk.call(0, Long.MIN_VALUE), 1);
        Check.pairs("way 0", desk, Long.MIN_VALUE, 31);
        Check.told("way 0", desk, 6, 1, 1, 0, 0);
    }
}
