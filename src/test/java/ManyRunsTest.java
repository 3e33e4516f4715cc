import java.util.Random;
import java.util.function.LongSupplier;

/** All promises: many runs of up to 512 calls, each answer compared with the plain second writing. */
public final class ManyRunsTest {
    private static final int RUNS = 4000;
    private static final int CALLS = 512;
    private static final long[] EDGES = {
        0, 1, -1, 2, 3, 4, 12, 39, 40, 41, 1L << 32,
        Integer.MIN_VALUE, Integer.MAX_VALUE, Long.MIN_VALUE, Long.MAX_VALUE
    };

    private final Random random;
    private final EmitDesk desk = new EmitDesk();
    private final PlainDesk plain = new PlainDesk();
    private final String name;
    private int calls = 0;

    private ManyRunsTest(int run) {
        // A fixed seed a run, so that a run that fails can be had again.
        random = new Random(run);
        name = "run " + run;
    }

    public static void main(String[] args) {
        for (int run = 0; run < RUNS; run++) {
            new ManyRunsTest(run).play();
        }
        Check.end();
    }

    private void play() {
        while (calls < CALLS) {
            switch (random.nextInt(12)) {
                case 0 -> both("clear()", desk::clear, plain::clear);
                case 1 -> both("empty()", desk::empty, plain::empty);
                case 2, 3 -> addValues(random.nextInt(random.nextInt(10) == 0 ? 45 : 6));
                case 4, 5, 6 -> addCode(random.nextInt(random.nextInt(10) == 0 ? 45 : 12));
                case 7 -> ask(wild());
                default -> callAndAsk();
            }
        }
    }

    private void addValues(int count) {
        for (int i = 0; i < count; i++) {
            long v = number();
            both("value(" + v + ")", () -> desk.value(v), () -> plain.value(v));
        }
    }

    private void addCode(int count) {
        for (int i = 0; i < count; i++) {
            int op = random.nextInt(25) == 0 ? wild() : fitting();
            long a = op == 4 || op == 5 ? random.nextInt(4) : op == 15 || op == 16 ? random.nextInt(9) : number();
            long sent = random.nextInt(25) == 0 ? number() : a;
            both("code(" + op + ", " + sent + ")", () -> desk.code(op, sent), () -> plain.code(op, sent));
        }
    }

    /** Pushes more often than not, or nearly every PROGRAM would soon trap on an empty stack. */
    private int fitting() {
        return random.nextInt(3) == 0 ? random.nextInt(5) : random.nextInt(19);
    }

    private void callAndAsk() {
        int way = random.nextInt(20) == 0 ? wild() : random.nextInt(3);
        long key = number();
        both("call(" + way + ", " + key + ")", () -> desk.call(way, key), () -> plain.call(way, key));
        for (int i = 0; i < 5; i++) {
            ask(i);
        }
    }

    private void ask(int i) {
        both("told(" + i + ")", () -> desk.told(i), () -> plain.told(i));
        both("cell(" + i + ")", () -> desk.cell(i), () -> plain.cell(i));
        both("emitted(" + i + ", false)", () -> desk.emitted(i, false), () -> plain.emitted(i, false));
        both("emitted(" + i + ", true)", () -> desk.emitted(i, true), () -> plain.emitted(i, true));
    }

    private int wild() {
        return random.nextBoolean() ? (int) EDGES[random.nextInt(EDGES.length)] : random.nextInt(24) - 2;
    }

    private long number() {
        return random.nextInt(3) == 0 ? EDGES[random.nextInt(EDGES.length)] : random.nextInt(7) - 2;
    }

    private void both(String call, LongSupplier got, LongSupplier due) {
        calls++;
        // Nothing is promised of an object behind its last call.
        if (calls > CALLS) {
            return;
        }
        Check.sameAnswer(name + ", call " + calls + ": " + call, got, due);
    }
}
