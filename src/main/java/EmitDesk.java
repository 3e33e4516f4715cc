/** A machine for small programs that take a KEY and its VALUES and emit pairs. */
public final class EmitDesk {
    private static final int MOST_INSTRUCTIONS = 40;
    private static final int MOST_VALUES = 40;
    private static final int MOST_ON_STACK = 12;
    private static final int MOST_DONE = 400;
    private static final int MOST_PAIRS = 4;
    private static final int CELLS = 4;

    private static final int WAY_FIRST_VALUE = 0;
    private static final int WAY_SAME_KEY = 1;
    private static final int LAST_WAY = 2;

    private static final int PUSH = 0;
    private static final int PUSH_KEY = 1;
    private static final int PUSH_VALUE = 2;
    private static final int PUSH_HAS_NEXT = 3;
    private static final int PUSH_CELL = 4;
    private static final int POP_CELL = 5;
    private static final int ADD = 6;
    private static final int SUBTRACT = 7;
    private static final int MULTIPLY = 8;
    private static final int DIVIDE = 9;
    private static final int LESS = 10;
    private static final int SAME = 11;
    private static final int DOUBLE = 12;
    private static final int DROP = 13;
    private static final int CHANGE = 14;
    private static final int GO = 15;
    private static final int GO_IF_ZERO = 16;
    private static final int EMIT = 17;
    private static final int END = 18;

    private static final int TOLD_DONE = 0;
    private static final int TOLD_STACK = 1;
    private static final int TOLD_PAIRS = 2;
    private static final int TOLD_TAKEN = 3;
    private static final int TOLD_TRAP = 4;

    private final int[] ops;
    private final long[] numbers;
    private int instructions;

    private final long[] values;
    private int valueCount;

    // All below belongs to the latest call and outlives it, until the next one that begins.
    private final long[] stack;
    private int depth;
    private final long[] cells;
    private final long[] pairKeys;
    private final long[] pairValues;
    private int pairs;
    private int latestWay;
    private long latestKey;
    private int place;
    private int done;
    private int taken;
    private boolean trapped;

    public EmitDesk() {
        ops = new int[MOST_INSTRUCTIONS];
        numbers = new long[MOST_INSTRUCTIONS];
        values = new long[MOST_VALUES];
        stack = new long[MOST_ON_STACK];
        cells = new long[CELLS];
        pairKeys = new long[MOST_PAIRS];
        pairValues = new long[MOST_PAIRS];
    }

    public int code(int op, long a) throws IllegalArgumentException, IllegalStateException {
        if (!isInstruction(op, a)) {
            throw new IllegalArgumentException("no such instruction");
        }
        if (instructions >= MOST_INSTRUCTIONS) {
            throw new IllegalStateException("the program is full");
        }
        ops[instructions] = op;
        numbers[instructions] = a;
        instructions++;
        return instructions;
    }

    public int clear() {
        int before = instructions;
        instructions = 0;
        return before;
    }

    public int value(long v) throws IllegalStateException {
        if (valueCount >= MOST_VALUES) {
            throw new IllegalStateException("no room for a value");
        }
        values[valueCount] = v;
        valueCount++;
        return valueCount;
    }

    public int empty() {
        int before = valueCount;
        valueCount = 0;
        return before;
    }

    public int call(int way, long key) throws IllegalArgumentException, UnsupportedOperationException {
        if (way < 0 || way > LAST_WAY) {
            throw new IllegalArgumentException("no such way");
        }
        if (goesBehindEnd()) {
            throw new IllegalArgumentException("the program goes behind its end");
        }
        begin(way, key);
        runProgram();
        if (trapped) {
            throw new UnsupportedOperationException("a trap");
        }
        return pairs;
    }

    public long emitted(int i, boolean value) throws IndexOutOfBoundsException {
        if (i < 0 || i >= pairs) {
            throw new IndexOutOfBoundsException("no such pair");
        }
        return value ? pairValues[i] : pairKeys[i];
    }

    public int told(int what) throws IllegalArgumentException {
        switch (what) {
            case TOLD_DONE:
                return done;
            case TOLD_STACK:
                return depth;
            case TOLD_PAIRS:
                return pairs;
            case TOLD_TAKEN:
                return taken;
            case TOLD_TRAP:
                return trapped ? 1 : 0;
            default:
                throw new IllegalArgumentException("nothing of that number is told");
        }
    }

    public long cell(int k) throws IndexOutOfBoundsException {
        if (k < 0 || k >= CELLS) {
            throw new IndexOutOfBoundsException("no such cell");
        }
        return cells[k];
    }

    private static boolean isInstruction(int op, long a) {
        if (op < PUSH || op > END) {
            return false;
        }
        if (op == PUSH_CELL || op == POP_CELL) {
            return a >= 0 && a < CELLS;
        }
        if (op == GO || op == GO_IF_ZERO) {
            return a >= 0 && a <= MOST_INSTRUCTIONS;
        }
        return true;
    }

    private boolean goesBehindEnd() {
        for (int i = 0; i < instructions; i++) {
            boolean goes = ops[i] == GO || ops[i] == GO_IF_ZERO;
            if (goes && numbers[i] > instructions) {
                return true;
            }
        }
        return false;
    }

    private void begin(int way, long key) {
        latestWay = way;
        latestKey = key;
        depth = 0;
        pairs = 0;
        place = 0;
        done = 0;
        taken = 0;
        trapped = false;
        for (int k = 0; k < CELLS; k++) {
            cells[k] = 0;
        }
    }

    private void runProgram() {
        for (int step = 0; step < MOST_DONE && place < instructions && !trapped; step++) {
            int op = ops[place];
            long a = numbers[place];
            place++;
            done++;
            perform(op, a);
        }
        // An instruction that is still due here would be one too many: a trap, but not counted as done.
        if (place < instructions) {
            trapped = true;
        }
        if (trapped) {
            depth = 0;
        }
    }

    private void perform(int op, long a) {
        switch (op) {
            case PUSH:
                push(a);
                break;
            case PUSH_KEY:
                push(latestKey);
                break;
            case PUSH_VALUE:
                pushValue();
                break;
            case PUSH_HAS_NEXT:
                push(hasNext() ? 1 : 0);
                break;
            case PUSH_CELL:
                push(cells[(int) a]);
                break;
            case POP_CELL:
                popCell((int) a);
                break;
            case DOUBLE:
                doubleTop();
                break;
            case DROP:
                pop();
                break;
            case CHANGE:
                changeTwo();
                break;
            case GO:
                place = (int) a;
                break;
            case GO_IF_ZERO:
                goIfZero((int) a);
                break;
            case EMIT:
                emitPair();
                break;
            case END:
                place = instructions;
                break;
            default:
                combine(op);
                break;
        }
    }

    private void push(long number) {
        if (depth >= MOST_ON_STACK) {
            trapped = true;
            return;
        }
        stack[depth] = number;
        depth++;
    }

    /** Answers 0 with a trap; whoever changes more than the stack looks at the trap first. */
    private long pop() {
        if (depth <= 0) {
            trapped = true;
            return 0;
        }
        depth--;
        return stack[depth];
    }

    private boolean hasNext() {
        return latestWay != WAY_FIRST_VALUE && taken < valueCount;
    }

    private void pushValue() {
        // In way 0 none is ever taken, so this is the first one each time.
        if (taken >= valueCount) {
            trapped = true;
            return;
        }
        push(values[taken]);
        // A value that found no room on the stack was not taken.
        if (!trapped && latestWay != WAY_FIRST_VALUE) {
            taken++;
        }
    }

    private void popCell(int k) {
        long number = pop();
        if (!trapped) {
            cells[k] = number;
        }
    }

    private void doubleTop() {
        long number = pop();
        push(number);
        push(number);
    }

    private void changeTwo() {
        long upper = pop();
        long lower = pop();
        push(upper);
        push(lower);
    }

    private void goIfZero(int target) {
        if (pop() == 0) {
            place = target;
        }
    }

    private void emitPair() {
        long pairValue = pop();
        long pairKey = latestWay == WAY_SAME_KEY ? latestKey : pop();
        if (trapped || pairs >= MOST_PAIRS) {
            trapped = true;
            return;
        }
        pairKeys[pairs] = pairKey;
        pairValues[pairs] = pairValue;
        pairs++;
    }

    private void combine(int op) {
        long upper = pop();
        long lower = pop();
        switch (op) {
            case ADD:
                push(lower + upper);
                break;
            case SUBTRACT:
                push(lower - upper);
                break;
            case MULTIPLY:
                push(lower * upper);
                break;
            case DIVIDE:
                divide(lower, upper);
                break;
            case LESS:
                push(lower < upper ? 1 : 0);
                break;
            case SAME:
                push(lower == upper ? 1 : 0);
                break;
            default:
                break;
        }
    }

    private void divide(long lower, long upper) {
        if (upper == 0) {
            trapped = true;
            return;
        }
        push(lower / upper);
    }
}
