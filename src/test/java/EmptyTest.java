/** Promise 5. */
public final class EmptyTest {
    public static void main(String[] args) {
        EmitDesk desk = Check.desk(2, 0, 5, 3, 1, 0, 4, 3, 17, 0);
        Check.values(desk, 4, 5, 6);
        Check.same("call", desk.call(1, 3), 1);
        Check.same("empty()", desk.empty(), 3);
        Check.same("empty() again", desk.empty(), 0);

        Check.told("the latest call stays", desk, 5, 1, 1, 1, 0);
        Check.cells("the latest call stays", desk, 0, 0, 0, 4);
        Check.pairs("the latest call stays", desk, 3, 4);

        for (int way = 0; way <= 2; way++) {
            int tried = way;
            Check.refused("way " + way + " without VALUES", Check.TRAP, () -> desk.call(tried, 3));
            Check.told("way " + way + " without VALUES", desk, 1, 0, 0, 0, 1);
        }
        Check.same("new value", desk.value(8), 1);
        Check.same("call with the new value", desk.call(0, 3), 1);
        Check.pairs("call with the new value", desk, 3, 8);
        Check.same("the PROGRAM stays", desk.clear(), 5);
        Check.end();
    }
}
