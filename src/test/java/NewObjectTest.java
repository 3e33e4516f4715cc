/** Promise 1. */
public final class NewObjectTest {
    public static void main(String[] args) {
        EmitDesk desk = new EmitDesk();
        Check.told("new", desk, 0, 0, 0, 0, 0);
        Check.cells("new", desk, 0, 0, 0, 0);
        Check.pairs("new", desk);
        Check.same("clear() of a new one", desk.clear(), 0);
        Check.same("empty() of a new one", desk.empty(), 0);
        Check.same("call of no program", new EmitDesk().call(0, 5), 0);
        objectsAreApart();
        Check.end();
    }

    private static void objectsAreApart() {
        EmitDesk one = Check.desk(0, 3, 5, 1, 1, 0, 0, 4, 17, 0);
        Check.values(one, 1, 2);
        one.call(0, 8);
        EmitDesk other = new EmitDesk();
        Check.told("new beside another", other, 0, 0, 0, 0, 0);
        Check.cells("new beside another", other, 0, 0, 0, 0);
        Check.pairs("new beside another", other);
        Check.same("first code beside another", other.code(13, 0), 1);
        Check.same("first value beside another", other.value(9), 1);
        Check.pairs("the first one", one, 8, 4);
    }
}
