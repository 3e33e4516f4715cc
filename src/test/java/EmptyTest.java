/** Promise 5: "No VALUES: how many there were." */
public final class EmptyTest {
    public static void main(String[] args) {
        answersHowManyThereWere();
        thereAreNoneThen();
        aFullOneHasRoomAgain();
        theLatestCallAndTheProgramStay();
        Check.end();
    }

    private static void answersHowManyThereWere() {
        for (int count : new int[] {0, 1, 2, 39, 40}) {
            EmitDesk desk = new EmitDesk();
            Check.valuesTo(desk, count);
            Check.same("empty() of " + count, desk.empty(), count);
            Check.same("empty() again", desk.empty(), 0);
        }
    }

    private static void thereAreNoneThen() {
        EmitDesk desk = Check.desk(3, 0, 5, 1, 2, 0, 5, 0);
        Check.values(desk, 4, 5, 6);
        desk.empty();
        for (int way = 0; way <= 2; way++) {
            int tried = way;
            Check.refused("way " + way + " without VALUES", Check.TRAP, () -> desk.call(tried, 3));
            Check.told("way " + way + " without VALUES", desk, 3, 0, 0, 0, 1);
            Check.cells("way " + way + " without VALUES", desk, 0, 0, 0, 0);
        }
        Check.same("value behind empty()", desk.value(8), 1);
        for (int way = 0; way <= 2; way++) {
            Check.same("call with the new VALUE", desk.call(way, 3), 0);
            Check.cells("call with the new VALUE", desk, 8, way == 0 ? 0 : 1, 0, 0);
        }
        desk.code(2, 0);
        for (int way = 1; way <= 2; way++) {
            int tried = way;
            Check.refused("none of the old VALUES is there", Check.TRAP, () -> desk.call(tried, 3));
        }
    }

    private static void aFullOneHasRoomAgain() {
        EmitDesk desk = new EmitDesk();
        Check.valuesTo(desk, 40);
        desk.empty();
        for (int i = 1; i <= 40; i++) {
            Check.same("value " + i + " behind empty()", desk.value(i), i);
        }
        Check.refused("value 41 behind empty()", Check.STATE, () -> desk.value(41));
    }

    private static void theLatestCallAndTheProgramStay() {
        EmitDesk desk = Check.desk(2, 0, 5, 3, 1, 0, 4, 3, 17, 0);
        Check.values(desk, 4, 5, 6);
        Check.same("call", desk.call(1, 3), 1);
        Check.same("empty()", desk.empty(), 3);
        Check.told("the latest call stays", desk, 5, 1, 1, 1, 0);
        Check.cells("the latest call stays", desk, 0, 0, 0, 4);
        Check.pairs("the latest call stays", desk, 3, 4);
        Check.same("the PROGRAM stays", desk.clear(), 5);
    }
}
