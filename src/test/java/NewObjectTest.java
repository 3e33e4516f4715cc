/** Promise 1. Each method's comment tells the words of the document that it tests. */
public final class NewObjectTest {
    public static void main(String[] args) {
        noInstructions();
        noValues();
        noCallWasDone();
        objectsAreApart();
        Check.end();
    }

    /** "No INSTRUCTIONS". */
    private static void noInstructions() {
        Check.same("clear() of a new one", new EmitDesk().clear(), 0);
        Check.same("first code of a new one", new EmitDesk().code(18, 0), 1);
        for (int way = 0; way <= 2; way++) {
            EmitDesk desk = new EmitDesk();
            Check.same("call of a new one, way " + way, desk.call(way, 5), 0);
            Check.told("call of a new one, way " + way, desk, 0, 0, 0, 0, 0);
        }
    }

    /** "no VALUES". */
    private static void noValues() {
        Check.same("empty() of a new one", new EmitDesk().empty(), 0);
        Check.same("first value of a new one", new EmitDesk().value(7), 1);
        for (int way = 0; way <= 2; way++) {
            int tried = way;
            Check.refused("2 of a new one, way " + way, Check.TRAP, () -> Check.desk(2, 0).call(tried, 0));
        }
    }

    /** "no call was done". */
    private static void noCallWasDone() {
        EmitDesk desk = new EmitDesk();
        Check.told("new", desk, 0, 0, 0, 0, 0);
        Check.cells("new", desk, 0, 0, 0, 0);
        Check.pairs("new", desk);
    }

    private static void objectsAreApart() {
        EmitDesk one = Check.desk(0, 3, 5, 1, 1, 0, 0, 4, 17, 0);
        Check.values(one, 1, 2);
        one.call(0, 8);
        EmitDesk other = new EmitDesk();
        Check.told("new beside another", other, 0, 0, 0, 0, 0);
        Check.cells("new beside another", other, 0, 0, 0, 0);
        Check.pairs("new beside another", other);
        Check.same("first code beside another", other.code(13, 0), 1);
        Check.same("first value beside another", other.value(9), 1);
        Check.pairs("the first one", one, 8, 4);
    }
}
