import java.util.function.Consumer;

/** Two objects with the same past: what is refused on one of them must leave it like the other, untried one. */
final class Twins {
    private final String name;
    private final EmitDesk tried = new EmitDesk();
    private final EmitDesk untried = new EmitDesk();

    Twins(String name, Consumer<EmitDesk> past) {
        this.name = name;
        both(past);
    }

    /** What was refused on the one must have left what the latest call left. */
    void refused(String call, Class<? extends RuntimeException> due, Consumer<EmitDesk> refused) {
        Check.refused(name + ", " + call, due, () -> refused.accept(tried));
        latestCall(name + ", " + call + ", the latest call");
    }

    void both(Consumer<EmitDesk> step) {
        step.accept(tried);
        step.accept(untried);
    }

    /** Uses them up: in the end their PROGRAMS and VALUES are asked for by taking them away. */
    void areAlike() {
        for (int way = 0; way <= 2; way++) {
            int asked = way;
            Check.sameAnswer(name + ", next call", () -> tried.call(asked, 71), () -> untried.call(asked, 71));
            latestCall(name + ", next call");
        }
        Check.same(name + ", INSTRUCTIONS", tried.clear(), untried.clear());
        Check.same(name + ", VALUES", tried.empty(), untried.empty());
    }

    private void latestCall(String what) {
        for (int i = 0; i <= 4; i++) {
            int asked = i;
            Check.same(what + ": told(" + i + ")", tried.told(i), untried.told(i));
            Check.sameAnswer(what + ": cell(" + i + ")", () -> tried.cell(asked), () -> untried.cell(asked));
            for (boolean value : new boolean[] {false, true}) {
                String pair = what + ": emitted(" + i + ", " + value + ")";
                Check.sameAnswer(pair, () -> tried.emitted(asked, value), () -> untried.emitted(asked, value));
            }
        }
    }
}
