/** Promise 7. Each method's comment tells the words of the document that it tests. */
public final class EmittedTest {
    public static void main(String[] args) {
        pairsFrom0();
        keyOrValue();
        ofTheLatestCall();
        oneWithATrapToo();
        thereIsNone();
        askingChangesNothing();
        Check.end();
    }

    private static EmitDesk emits(int count) {
        EmitDesk desk = new EmitDesk();
        for (int i = 0; i < count; i++) {
            Check.code(desk, 0, 100 + i, 0, 200 + i, 17, 0);
        }
        return desk;
    }

    private static long[] due(int count) {
        long[] pairs = new long[2 * count];
        for (int i = 0; i < count; i++) {
            pairs[2 * i] = 100 + i;
            pairs[2 * i + 1] = 200 + i;
        }
        return pairs;
    }

    /** "Of pair i (from 0)": none, and up to four. */
    private static void pairsFrom0() {
        for (int count = 0; count <= 4; count++) {
            EmitDesk desk = emits(count);
            Check.same(count + " pairs", desk.call(2, 1), count);
            Check.pairs(count + " pairs", desk, due(count));
        }
    }

    /** "the KEY, or (value) the VALUE": any long. */
    private static void keyOrValue() {
        EmitDesk desk = Check.desk(0, Long.MIN_VALUE, 0, Long.MAX_VALUE, 17, 0, 0, 0, 0, -1, 17, 0);
        Check.same("way 0", desk.call(0, 5), 2);
        Check.pairs("way 0", desk, Long.MIN_VALUE, Long.MAX_VALUE, 0, -1);
        Check.same("way 1", desk.call(1, 5), 2);
        Check.pairs("way 1", desk, 5, Long.MAX_VALUE, 5, -1);
        Check.same("way 2", desk.call(2, 5), 2);
        Check.pairs("way 2", desk, Long.MIN_VALUE, Long.MAX_VALUE, 0, -1);
    }

    /** "of the latest call": those of the call before are gone, if it emitted more of them, too. */
    private static void ofTheLatestCall() {
        EmitDesk desk = emits(4);
        Check.same("four", desk.call(2, 1), 4);
        desk.clear();
        Check.code(desk, 0, 1, 0, 2, 17, 0);
        Check.same("one", desk.call(0, 1), 1);
        Check.pairs("one behind four", desk, 1, 2);
        desk.clear();
        Check.same("none", desk.call(0, 1), 0);
        Check.pairs("none behind one", desk);
    }

    /** "one with a TRAP too (those before it)": none, and up to four. */
    private static void oneWithATrapToo() {
        for (int count = 0; count <= 4; count++) {
            EmitDesk desk = emits(4);
            desk.call(0, 1);
            desk.clear();
            for (int i = 0; i < count; i++) {
                Check.code(desk, 0, 100 + i, 0, 200 + i, 17, 0);
            }
            Check.code(desk, 13, 0);
            Check.refused("TRAP behind " + count, Check.TRAP, () -> desk.call(0, 9));
            Check.pairs("TRAP behind " + count, desk, due(count));
        }
        EmitDesk way1 = Check.desk(0, 2, 17, 0, 13, 0, 0, 3, 17, 0);
        Check.refused("a TRAP, way 1", Check.TRAP, () -> way1.call(1, 9));
        Check.pairs("those before the TRAP, with the KEY", way1, 9, 2);
    }

    /** "IndexOutOfBoundsException if there is none." */
    private static void thereIsNone() {
        none("without a call", new EmitDesk(), 0);
        for (int count = 0; count <= 4; count++) {
            EmitDesk desk = emits(count);
            Check.same(count + " pairs", desk.call(0, 1), count);
            none(count + " pairs", desk, count);
        }
        EmitDesk trapped = Check.desk(13, 0);
        Check.refused("a TRAP", Check.TRAP, () -> trapped.call(0, 9));
        none("a TRAP", trapped, 0);
    }

    private static void none(String what, EmitDesk desk, int count) {
        for (int i : new int[] {-1, -2, count, count + 1, 4, 5, Integer.MIN_VALUE, Integer.MAX_VALUE}) {
            Check.refused(what + ": emitted(" + i + ", false)", Check.INDEX, () -> desk.emitted(i, false));
            Check.refused(what + ": emitted(" + i + ", true)", Check.INDEX, () -> desk.emitted(i, true));
        }
    }

    private static void askingChangesNothing() {
        EmitDesk desk = emits(2);
        Check.same("two", desk.call(0, 1), 2);
        for (int i = 0; i < 3; i++) {
            Check.pairs("asked again", desk, 100, 200, 101, 201);
            Check.told("asked again", desk, 6, 0, 2, 0, 0);
        }
    }
}
