/** Promise 9. Each method's comment tells the words of the document that it tests. */
public final class CellTest {
    private static final long MIN = Long.MIN_VALUE;
    private static final long MAX = Long.MAX_VALUE;

    public static void main(String[] args) {
        asTheLatestCallLeftIt();
        aTrapToo();
        zeroWithout();
        thereIsNone();
        askingChangesNothing();
        Check.end();
    }

    private static EmitDesk filled() {
        EmitDesk desk = Check.desk(0, MIN, 5, 0, 0, 2, 5, 1, 0, 3, 5, 2, 0, MAX, 5, 3);
        Check.same("fills the CELLS", desk.call(0, 0), 0);
        return desk;
    }

    /** "CELL k as the latest call left it". */
    private static void asTheLatestCallLeftIt() {
        EmitDesk desk = filled();
        Check.cells("behind the call", desk, MIN, 2, 3, MAX);
        Check.code(desk, 0, 4, 5, 0, 0, 5, 5, 3);
        Check.cells("before the next call", desk, MIN, 2, 3, MAX);
        desk.call(0, 0);
        Check.cells("popped into twice", desk, 4, 2, 3, 5);
        desk.clear();
        Check.code(desk, 0, 9, 5, 2);
        Check.cells("before the next call", desk, 4, 2, 3, 5);
        desk.call(0, 0);
        Check.cells("those not popped into are 0", desk, 0, 0, 9, 0);
        desk.clear();
        desk.call(0, 0);
        Check.cells("a call that does nothing", desk, 0, 0, 0, 0);
    }

    /** "(a TRAP too)". */
    private static void aTrapToo() {
        EmitDesk desk = filled();
        desk.clear();
        Check.code(desk, 0, 6, 5, 1, 5, 0, 0, 7, 5, 2);
        Check.refused("a TRAP", Check.TRAP, () -> desk.call(0, 0));
        Check.cells("as the TRAP left them", desk, 0, 6, 0, 0);
        EmitDesk first = filled();
        first.clear();
        first.code(13, 0);
        Check.refused("a TRAP at once", Check.TRAP, () -> first.call(0, 0));
        Check.cells("a TRAP at once", first, 0, 0, 0, 0);
    }

    /** "0 without." Without any call: refused ones are none. */
    private static void zeroWithout() {
        EmitDesk desk = new EmitDesk();
        Check.cells("new", desk, 0, 0, 0, 0);
        Check.code(desk, 0, 6, 5, 0, 15, 40);
        Check.refused("a wrong way", Check.ARGUMENT, () -> desk.call(3, 0));
        Check.refused("behind the end", Check.ARGUMENT, () -> desk.call(0, 0));
        Check.cells("with refused calls alone", desk, 0, 0, 0, 0);
    }

    /** "IndexOutOfBoundsException if there is none." */
    private static void thereIsNone() {
        EmitDesk trapped = Check.desk(13, 0);
        Check.refused("a TRAP", Check.TRAP, () -> trapped.call(0, 0));
        for (EmitDesk desk : new EmitDesk[] {new EmitDesk(), filled(), trapped}) {
            for (int k : new int[] {-1, -2, 4, 5, 256, Integer.MIN_VALUE, Integer.MAX_VALUE}) {
                Check.refused("cell(" + k + ")", Check.INDEX, () -> desk.cell(k));
            }
        }
    }

    private static void askingChangesNothing() {
        EmitDesk desk = filled();
        for (int i = 0; i < 3; i++) {
            Check.cells("asked again", desk, MIN, 2, 3, MAX);
            Check.told("asked again", desk, 8, 0, 0, 0, 0);
        }
    }
}
