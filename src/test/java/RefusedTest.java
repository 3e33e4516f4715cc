import java.util.LinkedHashMap;
import java.util.Map;
import java.util.function.Consumer;

/** Terms: "Else what throws changes nothing": each refused call but a TRAP, on objects with several pasts. */
public final class RefusedTest {
    private static final Map<String, Consumer<EmitDesk>> PASTS = new LinkedHashMap<>();

    public static void main(String[] args) {
        PASTS.put("new", desk -> { });
        PASTS.put("never called", RefusedTest::fill);
        PASTS.put("called", RefusedTest::called);
        PASTS.put("with a TRAP", RefusedTest::trapped);
        PASTS.put("full", RefusedTest::full);
        code();
        codeWhenFull();
        value();
        otherWay();
        behindTheEnd();
        emitted();
        told();
        cell();
        Check.end();
    }

    /** Takes two VALUES, emits them and the KEY, pops into CELL 1 and leaves a long on the stack. */
    private static void fill(EmitDesk desk) {
        Check.code(desk, 2, 0, 5, 1, 4, 1, 2, 0, 17, 0, 1, 0, 1, 0, 17, 0, 0, 8);
        Check.values(desk, 41, 42, 43);
    }

    private static void called(EmitDesk desk) {
        fill(desk);
        Check.same("two pairs", desk.call(2, 6), 2);
    }

    private static void trapped(EmitDesk desk) {
        fill(desk);
        Check.code(desk, 0, 0, 9, 0);
        Check.refused("by 0", Check.TRAP, () -> desk.call(1, 6));
    }

    private static void full(EmitDesk desk) {
        fill(desk);
        Check.repeat(desk, 14, 0, 3, 13, 0);
        // All forty are done, and what the last one does can be seen.
        Check.code(desk, 0, 9, 12, 0, 5, 2);
        Check.valuesTo(desk, 37);
        Check.same("two pairs", desk.call(2, 6), 2);
    }

    private static void everywhere(String call, Class<? extends RuntimeException> due, Consumer<EmitDesk> refused) {
        PASTS.forEach((name, past) -> changesNothing(name, past, call, due, refused));
    }

    private static void whenFull(String call, Consumer<EmitDesk> refused) {
        changesNothing("full", RefusedTest::full, call, Check.STATE, refused);
    }

    private static void changesNothing(String name, Consumer<EmitDesk> past, String call,
            Class<? extends RuntimeException> due, Consumer<EmitDesk> refused) {
        Twins twins = new Twins(name, past);
        twins.refused(call, due, refused);
        twins.areAlike();
    }

    private static void code() {
        for (int op : new int[] {-1, 19, Integer.MIN_VALUE, Integer.MAX_VALUE}) {
            everywhere("code(" + op + ", 0)", Check.ARGUMENT, desk -> desk.code(op, 0));
        }
        for (int op : new int[] {4, 5, 15, 16}) {
            for (long a : new long[] {-1, op < 15 ? 4 : 41, Long.MIN_VALUE, Long.MAX_VALUE}) {
                everywhere("code(" + op + ", " + a + ")", Check.ARGUMENT, desk -> desk.code(op, a));
            }
        }
    }

    private static void codeWhenFull() {
        for (int op = 0; op <= 18; op++) {
            int tried = op;
            whenFull("code 41 is " + op, desk -> desk.code(tried, 0));
        }
    }

    private static void value() {
        for (long v : new long[] {0, 44, Long.MIN_VALUE, Long.MAX_VALUE}) {
            whenFull("value 41 is " + v, desk -> desk.value(v));
        }
    }

    private static void otherWay() {
        for (int way : new int[] {-1, 3, Integer.MIN_VALUE, Integer.MAX_VALUE}) {
            everywhere("way " + way, Check.ARGUMENT, desk -> desk.call(way, 7));
        }
    }

    private static void behindTheEnd() {
        for (int op = 15; op <= 16; op++) {
            int goes = op;
            PASTS.forEach((name, past) -> {
                if (!name.equals("full")) {
                    behindTheEnd(name, past, goes);
                }
            });
        }
    }

    private static void behindTheEnd(String name, Consumer<EmitDesk> past, int op) {
        Twins twins = new Twins(name, past);
        twins.both(desk -> goBehindTheEnd(desk, op));
        twins.refused(op + " behind the end", Check.ARGUMENT, desk -> desk.call(2, 7));
        // The goal is the end itself now, so that the twins can be called.
        twins.both(desk -> desk.code(18, 0));
        twins.areAlike();
    }

    private static void goBehindTheEnd(EmitDesk desk, int op) {
        int before = desk.code(18, 0);
        desk.code(op, before + 2);
    }

    private static void emitted() {
        for (int i : new int[] {-1, 4, Integer.MIN_VALUE, Integer.MAX_VALUE}) {
            everywhere("emitted(" + i + ", false)", Check.INDEX, desk -> desk.emitted(i, false));
            everywhere("emitted(" + i + ", true)", Check.INDEX, desk -> desk.emitted(i, true));
        }
    }

    private static void told() {
        for (int what : new int[] {-1, 5, Integer.MIN_VALUE, Integer.MAX_VALUE}) {
            everywhere("told(" + what + ")", Check.ARGUMENT, desk -> desk.told(what));
        }
    }

    private static void cell() {
        for (int k : new int[] {-1, 4, Integer.MIN_VALUE, Integer.MAX_VALUE}) {
            everywhere("cell(" + k + ")", Check.INDEX, desk -> desk.cell(k));
        }
    }
}
