/** Promise 3: "No INSTRUCTIONS: how many there were." */
public final class ClearTest {
    public static void main(String[] args) {
        answersHowManyThereWere();
        theProgramIsEmptyThen();
        aFullOneHasRoomAgain();
        oldGoalsAreGone();
        theLatestCallAndTheValuesStay();
        Check.end();
    }

    private static void answersHowManyThereWere() {
        for (int count : new int[] {0, 1, 2, 39, 40}) {
            EmitDesk desk = new EmitDesk();
            Check.repeat(desk, count, 18, 0);
            Check.same("clear() of " + count, desk.clear(), count);
            Check.same("clear() again", desk.clear(), 0);
        }
    }

    private static void theProgramIsEmptyThen() {
        EmitDesk desk = Check.desk(0, 4, 5, 1, 0, 5, 12, 0, 17, 0);
        desk.clear();
        for (int way = 0; way <= 2; way++) {
            Check.same("call of a cleared PROGRAM", desk.call(way, 3), 0);
            Check.told("call of a cleared PROGRAM", desk, 0, 0, 0, 0, 0);
            Check.cells("call of a cleared PROGRAM", desk, 0, 0, 0, 0);
            Check.pairs("call of a cleared PROGRAM", desk);
        }
        Check.same("code behind clear()", desk.code(18, 0), 1);
        Check.same("call of one INSTRUCTION", desk.call(0, 3), 0);
        Check.told("none of the old ones is done", desk, 1, 0, 0, 0, 0);
    }

    private static void aFullOneHasRoomAgain() {
        EmitDesk desk = new EmitDesk();
        Check.repeat(desk, 40, 18, 0);
        desk.clear();
        for (int i = 1; i <= 40; i++) {
            Check.same("code " + i + " behind clear()", desk.code(0, i), i);
        }
        Check.refused("code 41 behind clear()", Check.STATE, () -> desk.code(0, 41));
    }

    private static void oldGoalsAreGone() {
        EmitDesk desk = Check.desk(15, 40, 16, 40);
        Check.refused("goes behind the end", Check.ARGUMENT, () -> desk.call(0, 0));
        Check.same("clear()", desk.clear(), 2);
        Check.same("call without INSTRUCTIONS", desk.call(0, 0), 0);
        Check.same("code", desk.code(18, 0), 1);
        Check.same("call of one INSTRUCTION", desk.call(0, 0), 0);
    }

    private static void theLatestCallAndTheValuesStay() {
        EmitDesk desk = Check.desk(2, 0, 5, 1, 1, 0, 0, 6, 17, 0, 0, 9);
        Check.values(desk, 4, 5);
        Check.same("call", desk.call(2, 3), 1);
        Check.same("clear()", desk.clear(), 6);
        Check.told("the latest call stays", desk, 6, 1, 1, 1, 0);
        Check.cells("the latest call stays", desk, 0, 4, 0, 0);
        Check.pairs("the latest call stays", desk, 3, 6);
        Check.same("VALUES stay", desk.empty(), 2);
    }
}
