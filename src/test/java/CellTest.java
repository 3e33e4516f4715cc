/** Promise 9. */
public final class CellTest {
    public static void main(String[] args) {
        EmitDesk desk = new EmitDesk();
        Check.cells("without a call", desk, 0, 0, 0, 0);
        others(desk);
        Check.code(desk, 0, Long.MIN_VALUE, 5, 0, 0, 2, 5, 1, 0, 3, 5, 2, 0, Long.MAX_VALUE, 5, 3);
        Check.cells("before the call", desk, 0, 0, 0, 0);
        desk.call(0, 0);
        Check.cells("behind the call", desk, Long.MIN_VALUE, 2, 3, Long.MAX_VALUE);
        others(desk);
        Check.cells("asked again", desk, Long.MIN_VALUE, 2, 3, Long.MAX_VALUE);
        Check.refused("a wrong way", Check.ARGUMENT, () -> desk.call(-1, 0));
        Check.cells("behind a wrong way", desk, Long.MIN_VALUE, 2, 3, Long.MAX_VALUE);

        desk.clear();
        Check.code(desk, 0, 6, 5, 1, 5, 0);
        Check.refused("a TRAP", Check.TRAP, () -> desk.call(0, 0));
        Check.cells("as the TRAP left them", desk, 0, 6, 0, 0);
        desk.clear();
        desk.call(0, 0);
        Check.cells("0 when a call begins", desk, 0, 0, 0, 0);
        Check.end();
    }

    private static void others(EmitDesk desk) {
        for (int k : new int[] {-1, 4, 5, Integer.MIN_VALUE, Integer.MAX_VALUE}) {
            Check.refused("cell(" + k + ")", Check.INDEX, () -> desk.cell(k));
        }
    }
}
