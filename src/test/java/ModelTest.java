import java.util.function.IntSupplier;

/** Runs of made-up calls, always the same ones, answered by the program as by the model. */
public final class ModelTest {
    private static final int RUNS = 1200;
    private static final int CALLS = 150;
    private static final int CALLS_A_LOOK = 5;
    private static final int CALLS_A_LONG_LOOK = 50;
    private static final int CODE_BYTES = 400;
    private static final Check CHECK = new Check("ModelTest");
    private static final int[] CODES = {
        1, 2, 3, 3, 4, 5, 6, 7, 8, 9, 10, 11, 12, 13, 14, 15, 16, 17, 18, 19, 20, 21, 22, 23, 24, 25, 25, 26,
        26, 27, 27, 28, 28, 29, 29, 30, 31, 31, 40, 40, 41, 41, 42, 42, 43, 44, 45, 0, 33
    };
    private static final int[] WORDS = {
        0, 1, 3, 5, 7, 33, 35, 602, 606, 610, 1600, 1601, 1602, 1024, 1032, 2048, 3072, 4096, 5696, 65535, 65534, 32768
    };

    private final int[] faults = new int[10];
    private final int[] states = new int[5];
    private long seed;
    private final int[] image = new int[4096];
    private Machine x;
    private Model y;
    private String call;

    public static void main(String[] args) {
        ModelTest test = new ModelTest();
        for (int i = 0; i < RUNS; i++) {
            test.oneRun(i);
        }
        // a test that meets nothing tests nothing
        for (int fault = 1; fault < 10; fault++) {
            CHECK.due("FAULT " + fault + " was met", test.faults[fault] > 100 ? 1 : 0, 1);
        }
        for (int state = 0; state < 5; state++) {
            CHECK.due("state " + state + " was met", test.states[state] > 1000 ? 1 : 0, 1);
        }
        CHECK.end();
    }

    private int any(int bound) {
        seed = seed * 6364136223846793005L + 1442695040888963407L;
        return (int) ((seed >>> 33) % bound);
    }

    private int anyOf(int[] row) {
        return row[any(row.length)];
    }

    /** Calls are few, so what is 0 is not told. */
    private void pokeImage() {
        for (int address = 0; address < image.length; address++) {
            if (image[address] != 0) {
                x.poke(address, image[address]);
                y.poke(address, image[address]);
            }
        }
    }

    private void oneRun(int run) {
        seed = run * 7919L + 17;
        x = new Machine();
        y = new Model();
        java.util.Arrays.fill(image, 0);
        setUp();
        pokeImage();
        for (int i = 1; i <= CALLS; i++) {
            oneCall();
            if (i % CALLS_A_LOOK == 0 && !processesAgree(run, i)) {
                return;
            }
            if (i % CALLS_A_LONG_LOOK == 0 && !memoriesAgree(run, i)) {
                return;
            }
        }
        for (int real = 0; real < 12; real++) {
            CHECK.due("run " + run + ": noted(" + real + ")", x.noted(real), y.noted(real));
        }
    }

    private void setUp() {
        for (int g = 0; g < 16; g++) {
            image[32 + g] = any(8) == 0 ? any(65536) : 512 + 64 * (g % 2);
        }
        for (int i = -8; i < 8; i++) {
            image[512 + i] = anyOf(WORDS);
            image[576 + i] = anyOf(WORDS);
            image[604 + i] = anyOf(WORDS);
        }
        image[512] = 768;
        image[576] = any(3) == 0 ? 800 : 768;
        fillCode();
        for (int address = 1600; address < 1610; address++) {
            image[address] = any(3);
        }
        int[] sizes = {8, 12, 16, 24, 32, 48, 64, 96};
        int free = any(4) == 0 ? 1240 : 1024;
        for (int k = 0; k < 8; k++) {
            int head = 0;
            for (int i = any(4) + (k == 0 ? 4 : 0); i > 0; i--) {
                image[free] = head;
                head = free;
                free += sizes[k];
            }
            image[16 + k] = head;
        }
    }

    private void fillCode() {
        int b = 33;
        int e = 0;
        while (b < CODE_BYTES) {
            // a procedure begins one byte ahead of its first instruction; some begin anywhere
            if (e < 16 && any(4) == 0) {
                image[768 + e++] = any(20) == 0 ? any(65536) : any(10) == 0 ? any(CODE_BYTES) : b - 1;
            }
            if (any(3) == 0) {
                b = putMonitor(b);
            }
            int code = anyOf(CODES);
            for (int i = any(6) == 0 ? 0 : popped(code); i > 0; i--) {
                int word = any(2) == 0 ? any(16) : anyOf(WORDS);
                putByte(b++, 2);
                putByte(b++, word / 256);
                putByte(b++, word % 256);
            }
            putByte(b++, code);
            if (code == 2) {
                int word = anyOf(WORDS);
                putByte(b++, word / 256);
                putByte(b++, word % 256);
            } else if (code == 20 || code == 21 || code == 22) {
                putByte(b++, any(24) - 8);
            } else if (code >= 1 && code <= 8 || code == 29 || code == 26) {
                putByte(b++, any(5) == 0 ? any(256) : any(6));
            } else if (code >= 23 && code <= 25) {
                putByte(b++, any(256));
            }
        }
    }

    private static int popped(int code) {
        if (code >= 8 && code <= 16 || code == 19 || code == 22 || code == 24 || code == 31) {
            return 2;
        }
        if (code == 42) {
            return 3;
        }
        boolean one = code == 4 || code == 6 || code == 7 || code == 17 || code == 18 || code == 21 || code == 23;
        return one || code == 28 || code == 30 || code == 40 || code == 41 || code == 43 || code == 44 ? 1 : 0;
    }

    /** One of 40 to 44 with what it pops: these seldom come about by themselves. */
    private int putMonitor(int b) {
        int code = 40 + any(5);
        int monitor = 1600 + any(2);
        int condition = 1602 + any(2);
        int[] bytes = code == 42
            ? new int[] {2, monitor / 256, monitor % 256, 2, condition / 256, condition % 256, 1, any(6), code}
            : new int[] {2, monitor / 256, (code < 42 ? monitor : condition) % 256, code};
        for (int i = 0; i < bytes.length; i++) {
            putByte(b + i, bytes[i]);
        }
        return b + bytes.length;
    }

    private void putByte(int b, int v) {
        int address = 768 + b / 2;
        int word = image[address];
        image[address] = b % 2 == 0 ? (v & 255) * 256 + word % 256 : word / 256 * 256 + (v & 255);
    }

    private void same(String what, IntSupplier left, IntSupplier right) {
        call = what;
        String got = answer(left);
        String due = answer(right);
        if (!got.equals(due)) {
            System.out.println(what + ": " + got + ", due is " + due);
        }
        CHECK.due(what, got.equals(due) ? 1 : 0, 1);
    }

    private static String answer(IntSupplier supplier) {
        try {
            return Integer.toString(supplier.getAsInt());
        } catch (RuntimeException e) {
            return e.getClass().getName();
        }
    }

    private void oneCall() {
        int a = any(12) == 0 ? any(40) - 10 : any(16);
        int p = any(10) == 0 ? any(10) - 2 : any(6);
        switch (any(14)) {
            case 0: case 1: case 2: {
                int link = any(4) == 0 ? anyOf(WORDS) : any(64) * 2 + 1;
                int priority = any(5) == 0 ? any(100) - 50 : any(3);
                same("start(" + link + ", " + priority + ")", () -> x.start(link, priority),
                    () -> y.start(link, priority));
                break;
            }
            case 3: case 4: case 5: {
                int n = any(40) == 0 ? any(600) - 50 : any(12);
                same("run(" + n + ")", () -> x.run(n), () -> y.run(n));
                break;
            }
            case 6: {
                int n = any(20) == 0 ? any(110000) - 2000 : any(8);
                same("tick(" + n + ")", () -> x.tick(n), () -> y.tick(n));
                break;
            }
            case 7: {
                int c = any(4) == 0 ? any(4400) - 100 : 1600 + any(4);
                same("interrupt(" + c + ")", () -> x.interrupt(c), () -> y.interrupt(c));
                break;
            }
            case 8: case 9:
                same("resume(" + p + ")", () -> { x.resume(p); return 0; }, () -> { y.resume(p); return 0; });
                break;
            case 10:
                same("kill(" + p + ")", () -> { x.kill(p); return 0; }, () -> { y.kill(p); return 0; });
                break;
            case 11: {
                int to = any(3) == 0 ? any(18) - 3 : a;
                same("map(" + a + ", " + to + ")", () -> { x.map(a, to); return 0; },
                    () -> { y.map(a, to); return 0; });
                break;
            }
            case 12: {
                boolean is = any(3) == 0;
                same("protect(" + a + ", " + is + ")", () -> { x.protect(a, is); return 0; },
                    () -> { y.protect(a, is); return 0; });
                break;
            }
            default:
                pokeOrNoted(a);
        }
    }

    private void pokeOrNoted(int a) {
        if (any(2) == 0) {
            same("noted(" + a + ")", () -> x.noted(a), () -> y.noted(a));
            return;
        }
        int address = any(3) == 0 ? any(4200) - 50 : 1024 + any(64);
        int v = any(4) == 0 ? any(200000) - 100000 : anyOf(WORDS);
        same("poke(" + address + ", " + v + ")", () -> { x.poke(address, v); return 0; },
            () -> { y.poke(address, v); return 0; });
    }

    private boolean processesAgree(int run, int i) {
        boolean good = x.view().running() == y.running();
        for (int p = 0; p < 6; p++) {
            for (int what = 0; what < 8; what++) {
                good &= x.view().process(p, what) == y.process(p, what);
            }
            for (int k = 0; k <= y.process(p, 3); k++) {
                good &= x.view().stack(p, k) == y.stack(p, k);
            }
            faults[y.process(p, 6)]++;
            states[y.process(p, 0)]++;
        }
        CHECK.due("run " + run + ": processes as the model's behind call " + i + ", " + call, good ? 1 : 0, 1);
        return good;
    }

    private boolean memoriesAgree(int run, int i) {
        boolean good = true;
        for (int k = 0; k < 8; k++) {
            good &= x.view().free(k) == y.free(k);
        }
        for (int page = 0; page < 16; page++) {
            good &= x.view().page(page, 0) == y.page(page, 0) && x.view().page(page, 1) == y.page(page, 1);
            for (int k = 0; k < 256 && y.page(page, 0) != Model.NONE; k++) {
                good &= x.view().peek(page * 256 + k) == y.peek(page * 256 + k);
            }
        }
        CHECK.due("run " + run + ": memory as the model's behind call " + i + ", " + call, good ? 1 : 0, 1);
        return good;
    }
}
