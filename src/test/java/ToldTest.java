/** Promise 8. */
public final class ToldTest {
    public static void main(String[] args) {
        EmitDesk desk = new EmitDesk();
        Check.told("without a call", desk, 0, 0, 0, 0, 0);
        others(desk);
        Check.code(desk, 2, 0, 2, 0, 17, 0, 1, 0, 1, 0, 12, 0);
        Check.values(desk, 1, 2, 3);
        Check.same("way 2", desk.call(2, 5), 1);
        Check.told("way 2", desk, 6, 3, 1, 2, 0);
        Check.same("way 1", desk.call(1, 5), 1);
        Check.told("way 1", desk, 6, 4, 1, 2, 0);
        Check.same("way 0", desk.call(0, 5), 1);
        Check.told("way 0", desk, 6, 3, 1, 0, 0);
        desk.code(0, 0);
        desk.code(9, 0);
        Check.refused("a TRAP", Check.TRAP, () -> desk.call(2, 5));
        Check.told("a TRAP", desk, 8, 0, 1, 2, 1);
        others(desk);
        Check.told("asked again", desk, 8, 0, 1, 2, 1);
        Check.refused("a wrong way", Check.ARGUMENT, () -> desk.call(9, 5));
        Check.told("a wrong way is no call", desk, 8, 0, 1, 2, 1);
        Check.end();
    }

    private static void others(EmitDesk desk) {
        for (int what : new int[] {-1, 5, 6, Integer.MIN_VALUE, Integer.MAX_VALUE}) {
            Check.refused("told(" + what + ")", Check.ARGUMENT, () -> desk.told(what));
        }
    }
}
