/** What it is: "An object is used for at most 512 calls after it has been made": all of them are answered as is due. */
public final class LongRunTest {
    private static final int CALLS = 512;

    public static void main(String[] args) {
        trapsToTheLast();
        pairsToTheLast();
        refusedToTheLast();
        fullAndClearedToTheLast();
        Check.end();
    }

    /** The dearest calls: 400 INSTRUCTIONS each, and a TRAP. */
    private static void trapsToTheLast() {
        EmitDesk desk = Check.desk(0, 4, 5, 3, 15, 0);
        for (int calls = 3; calls < CALLS - 2; calls++) {
            Check.refused("call " + calls, Check.TRAP, () -> desk.call(1, 5));
        }
        Check.same("told in the last but one", desk.told(0), 400);
        Check.same("cell in the last", desk.cell(3), 4);
    }

    private static void pairsToTheLast() {
        EmitDesk desk = Check.desk(1, 0, 1, 0, 17, 0);
        for (int calls = 3; calls < CALLS - 1; calls += 2) {
            Check.same("call " + calls, desk.call(2, calls), 1);
            Check.same("emitted behind it", desk.emitted(0, true), calls);
        }
        Check.same("call in the last", desk.call(1, 1), 1);
    }

    private static void refusedToTheLast() {
        EmitDesk desk = Check.desk(0, 4, 5, 3, 0, 6);
        Check.same("call", desk.call(0, 5), 0);
        for (int calls = 4; calls < CALLS - 4; calls += 4) {
            Check.refused("code", Check.ARGUMENT, () -> desk.code(19, 0));
            Check.refused("call", Check.ARGUMENT, () -> desk.call(3, 0));
            Check.refused("emitted", Check.INDEX, () -> desk.emitted(0, true));
            Check.refused("cell", Check.INDEX, () -> desk.cell(4));
        }
        Check.same("cell", desk.cell(3), 4);
        Check.same("told", desk.told(1), 1);
        Check.same("empty", desk.empty(), 0);
        Check.same("clear in the last", desk.clear(), 3);
    }

    private static void fullAndClearedToTheLast() {
        EmitDesk desk = new EmitDesk();
        int calls = 0;
        while (calls + 84 <= CALLS) {
            for (int i = 1; i <= 40; i++) {
                Check.same("code", desk.code(18, 0), i);
                Check.same("value", desk.value(i), i);
            }
            Check.refused("code 41", Check.STATE, () -> desk.code(18, 0));
            Check.refused("value 41", Check.STATE, () -> desk.value(41));
            Check.same("clear", desk.clear(), 40);
            Check.same("empty", desk.empty(), 40);
            calls += 84;
        }
        while (calls < CALLS) {
            Check.same("clear of none", desk.clear(), 0);
            calls++;
        }
    }
}
