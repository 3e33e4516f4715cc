/** Promise 3. */
public final class ClearTest {
    public static void main(String[] args) {
        EmitDesk desk = Check.desk(2, 0, 5, 1, 1, 0, 0, 6, 17, 0, 0, 9);
        Check.values(desk, 4, 5);
        Check.same("call", desk.call(2, 3), 1);
        Check.same("clear()", desk.clear(), 6);
        Check.same("clear() again", desk.clear(), 0);

        Check.told("the latest call stays", desk, 6, 1, 1, 1, 0);
        Check.cells("the latest call stays", desk, 0, 4, 0, 0);
        Check.pairs("the latest call stays", desk, 3, 6);

        Check.same("call of a cleared program", desk.call(2, 3), 0);
        Check.told("call of a cleared program", desk, 0, 0, 0, 0, 0);
        Check.cells("call of a cleared program", desk, 0, 0, 0, 0);
        Check.pairs("call of a cleared program", desk);
        Check.same("VALUES stay", desk.empty(), 2);

        oldGoalsAreGone();
        Check.end();
    }

    private static void oldGoalsAreGone() {
        EmitDesk desk = Check.desk(15, 40);
        Check.refused("goes behind the end", Check.ARGUMENT, () -> desk.call(0, 0));
        Check.same("clear()", desk.clear(), 1);
        Check.same("call", desk.call(0, 0), 0);
        Check.same("code", desk.code(18, 0), 1);
        Check.same("call", desk.call(0, 0), 0);
    }
}
