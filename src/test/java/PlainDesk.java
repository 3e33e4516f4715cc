import java.util.ArrayDeque;
import java.util.ArrayList;
import java.util.List;

/** The document written a second time, with the Java library and without any sparing, to compare answers with. */
final class PlainDesk {
    private static final class Trap extends Exception {
        private static final long serialVersionUID = 1L;
    }

    private static final List<Integer> NEED_ONE = List.of(5, 12, 13, 16);
    private static final List<Integer> NEED_TWO = List.of(6, 7, 8, 9, 10, 11, 14);
    private static final List<Integer> NEED_ROOM = List.of(0, 1, 2, 3, 4, 12);

    private final List<long[]> program = new ArrayList<>();
    private final List<Long> values = new ArrayList<>();
    private ArrayDeque<Long> stack = new ArrayDeque<>();
    private List<long[]> pairs = new ArrayList<>();
    private long[] cells = new long[4];
    private int place;
    private int done;
    private int taken;
    private boolean trapped;

    int code(int op, long a) {
        boolean cellOp = op == 4 || op == 5;
        boolean goOp = op == 15 || op == 16;
        if (op < 0 || op > 18 || cellOp && (a < 0 || a > 3) || goOp && (a < 0 || a > 40)) {
            throw new IllegalArgumentException();
        }
        if (program.size() == 40) {
            throw new IllegalStateException();
        }
        program.add(new long[] {op, a});
        return program.size();
    }

    int clear() {
        int before = program.size();
        program.clear();
        return before;
    }

    int value(long v) {
        if (values.size() == 40) {
            throw new IllegalStateException();
        }
        values.add(v);
        return values.size();
    }

    int empty() {
        int before = values.size();
        values.clear();
        return before;
    }

    int call(int way, long key) {
        boolean behind = program.stream().anyMatch(i -> (i[0] == 15 || i[0] == 16) && i[1] > program.size());
        if (way < 0 || way > 2 || behind) {
            throw new IllegalArgumentException();
        }
        stack = new ArrayDeque<>();
        pairs = new ArrayList<>();
        cells = new long[4];
        place = 0;
        done = 0;
        taken = 0;
        trapped = false;
        try {
            while (place < program.size()) {
                if (done == 400) {
                    throw new Trap();
                }
                done++;
                long[] instruction = program.get(place++);
                step((int) instruction[0], instruction[1], way, key);
            }
        } catch (Trap e) {
            trapped = true;
            stack.clear();
            throw new UnsupportedOperationException();
        }
        return pairs.size();
    }

    private void step(int op, long a, int way, long key) throws Trap {
        int needs = NEED_ONE.contains(op) ? 1 : NEED_TWO.contains(op) ? 2 : 0;
        if (op == 17) {
            needs = way == 1 ? 1 : 2;
        }
        boolean noValue = op == 2 && (way == 0 ? values.isEmpty() : taken == values.size());
        boolean noRoom = NEED_ROOM.contains(op) && stack.size() == 12;
        boolean fifth = op == 17 && pairs.size() == 4;
        if (stack.size() < needs || noValue || noRoom || fifth || op == 9 && stack.peek() == 0) {
            throw new Trap();
        }
        long top = needs > 0 ? stack.pop() : 0;
        long below = needs > 1 ? stack.pop() : 0;
        if (op == 0) stack.push(a);
        if (op == 1) stack.push(key);
        if (op == 2) stack.push(values.get(way == 0 ? 0 : taken++));
        if (op == 3) stack.push(way != 0 && taken < values.size() ? 1L : 0L);
        if (op == 4) stack.push(cells[(int) a]);
        if (op == 5) cells[(int) a] = top;
        if (op == 6) stack.push(below + top);
        if (op == 7) stack.push(below - top);
        if (op == 8) stack.push(below * top);
        if (op == 9) stack.push(below / top);
        if (op == 10) stack.push(below < top ? 1L : 0L);
        if (op == 11) stack.push(below == top ? 1L : 0L);
        if (op == 12) {
            stack.push(top);
            stack.push(top);
        }
        if (op == 14) {
            stack.push(top);
            stack.push(below);
        }
        if (op == 15 || op == 16 && top == 0) place = (int) a;
        if (op == 17) pairs.add(new long[] {way == 1 ? key : below, top});
        if (op == 18) place = program.size();
    }

    long emitted(int i, boolean value) {
        if (i < 0 || i >= pairs.size()) {
            throw new IndexOutOfBoundsException();
        }
        return pairs.get(i)[value ? 1 : 0];
    }

    int told(int what) {
        if (what < 0 || what > 4) {
            throw new IllegalArgumentException();
        }
        return new int[] {done, stack.size(), pairs.size(), taken, trapped ? 1 : 0}[what];
    }

    long cell(int k) {
        if (k < 0 || k > 3) {
            throw new IndexOutOfBoundsException();
        }
        return cells[k];
    }
}
