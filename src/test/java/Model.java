import java.util.ArrayList;
import java.util.List;

/** The document written a second time, as plainly as can be: it copies all, does, and puts all back on a fault. */
final class Model {
    static final int NONE = -1;

    private static final class Fault extends RuntimeException {
        private static final long serialVersionUID = 1L;
        final int code;

        Fault(int code) {
            super(null, null, false, false);
            this.code = code;
        }
    }

    private static final class Proc {
        String state = "FREE";
        int priority;
        int frame;
        ArrayList<Integer> stack = new ArrayList<>();
        int at = NONE;
        int timeout;
        int fault;
    }

    private int[][] real = new int[12][256];
    private final int[] map = new int[16];
    private final boolean[] guard = new boolean[16];
    private final boolean[] used = new boolean[12];
    private final boolean[] changed = new boolean[12];
    private final Proc[] procs = new Proc[6];
    /** Every process that is not FREE, in the order in which each came to where it is. */
    private final List<Proc> order = new ArrayList<>();

    Model() {
        for (int i = 0; i < 16; i++) {
            map[i] = i < 12 ? i : NONE;
        }
        for (int i = 0; i < 6; i++) {
            procs[i] = new Proc();
        }
    }

    private static void need(boolean is) {
        if (!is) {
            throw new IndexOutOfBoundsException();
        }
    }

    private static void legal(boolean is) {
        if (!is) {
            throw new IllegalStateException();
        }
    }

    void map(int page, int to) {
        need(page >= 0 && page <= 15 && to >= -1 && to <= 11);
        map[page] = to;
    }

    void protect(int page, boolean is) {
        need(page >= 0 && page <= 15);
        guard[page] = is;
    }

    int noted(int r) {
        need(r >= 0 && r <= 11);
        int answer = (used[r] ? 1 : 0) + (changed[r] ? 2 : 0);
        used[r] = false;
        changed[r] = false;
        return answer;
    }

    void poke(int address, int v) {
        need(address >= 0 && address <= 4095);
        legal(map[address / 256] != NONE);
        real[map[address / 256]][address % 256] = Math.floorMod(v, 65536);
    }

    int peek(int address) {
        need(address >= 0 && address <= 4095);
        legal(map[address / 256] != NONE);
        return real[map[address / 256]][address % 256];
    }

    private int read(int address) {
        int a = Math.floorMod(address, 4096);
        if (map[a / 256] == NONE) {
            throw new Fault(1);
        }
        used[map[a / 256]] = true;
        return real[map[a / 256]][a % 256];
    }

    private void write(int address, int v) {
        int a = Math.floorMod(address, 4096);
        if (map[a / 256] == NONE) {
            throw new Fault(1);
        }
        if (guard[a / 256]) {
            throw new Fault(2);
        }
        used[map[a / 256]] = true;
        changed[map[a / 256]] = true;
        real[map[a / 256]][a % 256] = Math.floorMod(v, 65536);
    }

    private int byteOf(int code, int b) {
        int at = Math.floorMod(b, 65536);
        int word = read(code + at / 2);
        return at % 2 == 0 ? word / 256 : word % 256;
    }

    private int take(int k) {
        for (int j = k; j <= 7; j++) {
            int frame = read(16 + j);
            if (frame != 0) {
                int following = read(frame);
                write(16 + j, following);
                write(frame + 3, j);
                return frame;
            }
        }
        throw new Fault(3);
    }

    private void back(int p) {
        int k = read(p + 3) % 8;
        int firstFree = read(16 + k);
        write(p, firstFree);
        write(16 + k, p);
    }

    private int resolved(int link) {
        if (link == 0) {
            throw new Fault(4);
        }
        if (link % 4 != 2) {
            return link;
        }
        int word = read(link - 2);
        if (word % 4 == 2 || word == 0) {
            throw new Fault(4);
        }
        return word;
    }

    private int called(int link, int from) {
        int l = resolved(link);
        if (l % 4 == 0) {
            return l;
        }
        int e = l / 2 % 16;
        int g = l / 32 % 16;
        int globals = read(32 + g);
        int code = read(globals);
        int begin = read(code + e);
        int k = byteOf(code, begin) % 8;
        int frame = take(k);
        write(frame, from);
        write(frame + 1, g);
        write(frame + 2, begin + 1);
        return frame;
    }

    private Proc leastFree() {
        for (Proc p : procs) {
            if (p.state.equals("FREE")) {
                return p;
            }
        }
        throw new Fault(8);
    }

    private int childFrame(int link) {
        if (resolvedQuietly(link)) {
            return called(link, 0);
        }
        resolved(link);
        throw new Fault(8);
    }

    private boolean resolvedQuietly(int link) {
        int a = Math.floorMod(link - 2, 4096);
        int l = link;
        if (link % 4 == 2) {
            if (map[a / 256] == NONE) {
                return false;
            }
            l = real[map[a / 256]][a % 256];
        }
        return l % 2 == 1;
    }

    private void enter(Proc p, String state) {
        order.remove(p);
        p.state = state;
        p.at = NONE;
        p.timeout = 0;
        p.fault = 0;
        if (state.equals("FREE")) {
            p.priority = 0;
            p.frame = 0;
            p.stack.clear();
        } else {
            order.add(p);
        }
    }

    private void born(Proc p, int frame, int priority) {
        enter(p, "READY");
        p.frame = frame;
        p.priority = priority;
        p.stack.clear();
    }

    private Proc first(String state, int at) {
        Proc best = null;
        for (Proc p : order) {
            if (p.state.equals(state) && p.at == at && (best == null || p.priority > best.priority)) {
                best = p;
            }
        }
        return best;
    }

    private int wake(String state, int at) {
        Proc p = first(state, at);
        if (p == null) {
            return NONE;
        }
        enter(p, "READY");
        return number(p);
    }

    private int number(Proc p) {
        for (int i = 0; i < 6; i++) {
            if (procs[i] == p) {
                return i;
            }
        }
        return NONE;
    }

    private static int[][] copy(int[][] rows) {
        int[][] all = new int[rows.length][];
        for (int i = 0; i < rows.length; i++) {
            all[i] = rows[i].clone();
        }
        return all;
    }

    int start(int link, int priority) {
        int[][] before = copy(real);
        try {
            Proc p = leastFree();
            int frame = childFrame(Math.floorMod(link, 65536));
            born(p, frame, Math.floorMod(priority, 8));
            return number(p);
        } catch (Fault fault) {
            real = before;
            throw new IllegalStateException();
        }
    }

    int run(int n) {
        if (n < 0 || n > 500) {
            throw new IllegalArgumentException();
        }
        for (int i = 0; i < n; i++) {
            Proc p = first("READY", NONE);
            if (p == null) {
                return i;
            }
            step(p);
        }
        return n;
    }

    private void step(Proc p) {
        int[][] words = copy(real);
        ArrayList<Integer> stack = new ArrayList<>(p.stack);
        int frame = p.frame;
        try {
            instruction(p);
        } catch (Fault fault) {
            real = words;
            p.stack = stack;
            p.frame = frame;
            if (fault.code >= 100) {
                enter(p, "BLOCKED");
                p.at = fault.code - 100;
            } else {
                enter(p, "STOPPED");
                p.fault = fault.code;
            }
        }
    }

    private static int pop(Proc p) {
        if (p.stack.isEmpty()) {
            throw new Fault(5);
        }
        return p.stack.remove(p.stack.size() - 1);
    }

    private static void push(Proc p, int v) {
        p.stack.add(Math.floorMod(v, 65536));
    }

    private static int signed(int word) {
        return word >= 32768 ? word - 65536 : word;
    }

    private void end(Proc p, int frame, int next) {
        if (p.stack.size() > 8) {
            throw new Fault(6);
        }
        write(frame + 2, next);
    }

    private void instruction(Proc p) {
        int f = p.frame;
        int g = read(f + 1) % 16;
        int globals = read(32 + g);
        int code = read(globals);
        int at = read(f + 2);
        int op = byteOf(code, at);
        if (op > 45 || op > 31 && op < 40) {
            throw new Fault(9);
        }
        boolean one = op >= 1 && op <= 8 || op >= 20 && op <= 26 || op == 29;
        int n = one ? byteOf(code, at + 1) : 0;
        int c = op == 2 ? byteOf(code, at + 2) : 0;
        int behind = at + (op == 2 ? 3 : one ? 2 : 1);
        if (op <= 24) {
            end(p, f, plain(p, op, n, c, at, behind, globals));
        } else if (op <= 28) {
            calls(p, op, n, g, behind, globals);
        } else if (op == 29) {
            push(p, take(n % 8));
            end(p, f, behind);
        } else if (op == 30) {
            back(pop(p));
            end(p, f, behind);
        } else if (op == 31) {
            int link = pop(p);
            int priority = pop(p) % 8;
            Proc child = leastFree();
            int frame = childFrame(link);
            end(p, f, behind);
            born(child, frame, priority);
        } else {
            monitors(p, op, behind);
        }
    }

    private int plain(Proc p, int op, int n, int c, int at, int behind, int globals) {
        int d = n >= 128 ? n - 256 : n;
        int f = p.frame;
        int a;
        int b;
        switch (op) {
            case 0: break;
            case 1: push(p, n); break;
            case 2: push(p, 256 * n + c); break;
            case 3: push(p, read(f + 4 + n)); break;
            case 4: a = pop(p); write(f + 4 + n, a); break;
            case 5: push(p, read(globals + 1 + n)); break;
            case 6: a = pop(p); write(globals + 1 + n, a); break;
            case 7: a = pop(p); push(p, read(a + n)); break;
            case 8: a = pop(p); b = pop(p); write(a + n, b); break;
            case 17: a = pop(p); push(p, a); push(p, a); break;
            case 18: pop(p); break;
            case 20: return at + d;
            case 21: return pop(p) == 0 ? at + d : behind;
            case 23: push(p, bits(pop(p), n)); break;
            default:
                b = pop(p);
                a = pop(p);
                if (op == 22) {
                    return signed(a) < signed(b) ? at + d : behind;
                }
                if (op == 19) {
                    push(p, b);
                    push(p, a);
                } else if (op == 24) {
                    push(p, withBits(a, b, n));
                } else {
                    push(p, result(op, a, b));
                }
        }
        return behind;
    }

    private static int result(int op, int a, int b) {
        switch (op) {
            case 9: return (a + b) % 65536;
            case 10: return (a - b + 65536) % 65536;
            case 11: return (int) ((long) a * b % 65536);
            case 12:
                if (b == 0) {
                    throw new Fault(7);
                }
                return a / b;
            case 13: return a & b;
            case 14: return a | b;
            case 15: return a ^ b;
            default:
                int v = a;
                for (int i = 0; i < Math.min(20, Math.abs(signed(b))); i++) {
                    v = signed(b) > 0 ? v * 2 % 65536 : v / 2;
                }
                return v;
        }
    }

    private static int bits(int v, int s) {
        int answer = 0;
        for (int i = s / 16; i <= s / 16 + s % 16 && i < 16; i++) {
            answer = 2 * answer + (v >> (15 - i)) % 2;
        }
        return answer;
    }

    private static int withBits(int v, int f, int s) {
        int last = Math.min(15, s / 16 + s % 16);
        int answer = v;
        int left = f;
        for (int i = last; i >= s / 16; i--) {
            int weight = 1 << (15 - i);
            answer = answer - answer / weight % 2 * weight + left % 2 * weight;
            left = left / 2;
        }
        return answer;
    }

    private void calls(Proc p, int op, int n, int g, int behind, int globals) {
        int f = p.frame;
        if (op == 27) {
            int link = read(f);
            back(f);
            if (link == 0) {
                enter(p, "FREE");
            } else {
                p.frame = called(link, 0);
            }
            return;
        }
        int link = op == 25 ? 1 + n % 16 * 2 + g * 32 : op == 26 ? read(globals - 1 - n) : pop(p);
        write(f + 2, behind);
        p.frame = called(link, f);
    }

    private void monitors(Proc p, int op, int behind) {
        int f = p.frame;
        int t = op == 42 ? pop(p) : 0;
        int c = op >= 42 && op <= 44 ? pop(p) : 0;
        int m = op <= 42 ? pop(p) : 0;
        boolean waits = false;
        if (op == 40) {
            if (read(m) != 0) {
                throw new Fault(100 + m % 4096);
            }
            write(m, 1);
        } else if (op <= 42) {
            write(m, 0);
        }
        if (op == 42) {
            int word = read(c);
            waits = word % 2 == 0;
            if (!waits) {
                write(c, word - 1);
            }
        }
        end(p, f, behind);
        if (waits) {
            enter(p, "WAITING");
            p.at = c % 4096;
            p.timeout = t;
        }
        if (op == 41 || op == 42) {
            wake("BLOCKED", m % 4096);
        } else if (op == 43) {
            wake("WAITING", c % 4096);
        } else if (op == 44) {
            while (wake("WAITING", c % 4096) != NONE) {
                continue;
            }
        } else if (op == 45) {
            enter(p, "READY");
        }
    }

    void resume(int process) {
        need(process >= 0 && process <= 5);
        legal(procs[process].state.equals("STOPPED"));
        enter(procs[process], "READY");
    }

    void kill(int process) {
        need(process >= 0 && process <= 5);
        legal(!procs[process].state.equals("FREE"));
        enter(procs[process], "FREE");
    }

    int interrupt(int c) {
        need(c >= 0 && c <= 4095);
        int woken = wake("WAITING", c);
        if (woken == NONE && map[c / 256] != NONE && !guard[c / 256] && peek(c) % 2 == 0) {
            write(c, peek(c) + 1);
        }
        return woken;
    }

    int tick(int n) {
        if (n < 0 || n > 100000) {
            throw new IllegalArgumentException();
        }
        int woken = 0;
        for (int i = 0; i < n; i++) {
            for (Proc p : procs) {
                if (p.state.equals("WAITING") && p.timeout > 0) {
                    p.timeout--;
                    if (p.timeout == 0) {
                        enter(p, "READY");
                        woken++;
                    }
                }
            }
        }
        return woken;
    }

    int running() {
        Proc p = first("READY", NONE);
        return p == null ? NONE : number(p);
    }

    int process(int process, int what) {
        if (process < 0 || process > 5) {
            return NONE;
        }
        Proc p = procs[process];
        switch (what) {
            case 0: return List.of("FREE", "READY", "BLOCKED", "WAITING", "STOPPED").indexOf(p.state);
            case 1: return p.priority;
            case 2: return p.frame;
            case 3: return p.stack.size();
            case 4: return p.at;
            case 5: return p.timeout;
            case 6: return p.fault;
            case 7: return place(p);
            default: return NONE;
        }
    }

    private int place(Proc p) {
        int place = 0;
        for (Proc other : order) {
            if (other == p) {
                return p.state.equals("READY") ? place : NONE;
            }
            place += other.state.equals("READY") ? 1 : 0;
        }
        return NONE;
    }

    int stack(int process, int k) {
        if (process < 0 || process > 5 || k < 0 || k >= procs[process].stack.size()) {
            return NONE;
        }
        return procs[process].stack.get(procs[process].stack.size() - 1 - k);
    }

    int page(int page, int what) {
        if (page < 0 || page > 15) {
            return NONE;
        }
        return what == 0 ? map[page] : what == 1 ? guard[page] ? 1 : 0 : NONE;
    }

    int free(int k) {
        if (k < 0 || k > 7) {
            return NONE;
        }
        int count = 0;
        for (int f = seen(16 + k); f != 0 && count < 600; f = seen(f)) {
            count++;
        }
        return count;
    }

    private int seen(int address) {
        int a = address % 4096;
        return map[a / 256] == NONE ? 0 : peek(a);
    }
}
