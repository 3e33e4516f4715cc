/** Promise 7. */
public final class EmittedTest {
    public static void main(String[] args) {
        EmitDesk desk = new EmitDesk();
        Check.pairs("without a call", desk);
        for (int i = 0; i < 4; i++) {
            Check.code(desk, 0, 100 + i, 0, 200 + i, 17, 0);
        }
        Check.same("four", desk.call(2, 1), 4);
        Check.pairs("four", desk, 100, 200, 101, 201, 102, 202, 103, 203);
        for (int i : new int[] {-1, 4, 5, Integer.MIN_VALUE, Integer.MAX_VALUE}) {
            Check.refused("emitted(" + i + ", false)", Check.INDEX, () -> desk.emitted(i, false));
            Check.refused("emitted(" + i + ", true)", Check.INDEX, () -> desk.emitted(i, true));
        }
        Check.pairs("asked again", desk, 100, 200, 101, 201, 102, 202, 103, 203);

        desk.clear();
        Check.code(desk, 0, 1, 0, 2, 17, 0);
        Check.same("one", desk.call(0, 1), 1);
        Check.pairs("those of the call before are gone", desk, 1, 2);

        desk.code(13, 0);
        Check.refused("a TRAP, way 0", Check.TRAP, () -> desk.call(0, 9));
        Check.pairs("those before the TRAP", desk, 1, 2);
        desk.code(13, 0);
        Check.refused("a TRAP, way 1", Check.TRAP, () -> desk.call(1, 9));
        Check.pairs("those before the TRAP, with the KEY", desk, 9, 2);
        Check.refused("a wrong way", Check.ARGUMENT, () -> desk.call(3, 8));
        Check.pairs("behind a wrong way", desk, 9, 2);
        Check.end();
    }
}
