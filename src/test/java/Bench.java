/** A Machine with global frame 0 at 512, its code at 768 and, if asked for, frames from 1024 on. */
final class Bench {
    static final int GLOBAL = 512;
    static final int CODE = 768;
    static final int HEAP = 1024;
    /** A code that is no instruction: it stops a program with FAULT 9 and leaves all as it is. */
    static final int HALT = 255;
    private static final int[] SIZES = {8, 12, 16, 24, 32, 48, 64, 96};

    final Machine x = new Machine();
    private final int[] code = new int[256];
    private int freeByte = 64;
    private int freeWord = HEAP;

    Bench() {
        x.poke(32, GLOBAL);
        x.poke(GLOBAL, CODE);
    }

    /** One process, 0, stopped by HALT (or a fault) behind these instructions. */
    static Bench ran(int... bytes) {
        Bench bench = new Bench().frames(0, 8);
        bench.procedure(0, 0, ended(bytes));
        bench.x.start(1, 3);
        bench.x.run(500);
        return bench;
    }

    /** Process 0, of priority 3, with these words on its stack (the last one on top), at these instructions. */
    static Bench at(int[] words, int... bytes) {
        int[] all = new int[3 * words.length + bytes.length];
        for (int i = 0; i < words.length; i++) {
            all[3 * i] = 2;
            all[3 * i + 1] = words[i] >> 8;
            all[3 * i + 2] = words[i] & 255;
        }
        System.arraycopy(bytes, 0, all, 3 * words.length, bytes.length);
        Bench bench = new Bench().frames(0, 8);
        bench.procedure(0, 0, ended(all));
        bench.x.start(1, 3);
        bench.x.run(words.length);
        return bench;
    }

    static int[] words(int... words) {
        return words;
    }

    static int[] ended(int... bytes) {
        int[] all = java.util.Arrays.copyOf(bytes, bytes.length + 1);
        all[bytes.length] = HALT;
        return all;
    }

    /** Puts so many more frames of a class in front of its free ones. */
    Bench frames(int k, int count) {
        int first = x.peek(16 + k);
        for (int i = 0; i < count; i++) {
            x.poke(freeWord, first);
            first = freeWord;
            freeWord += SIZES[k];
        }
        x.poke(16 + k, first);
        return this;
    }

    /** A procedure of global frame 0, and the byte where its instructions begin. */
    int procedure(int e, int k, int... bytes) {
        int begin = freeByte;
        x.poke(CODE + e, begin);
        code[e] = begin;
        putByte(freeByte++, k);
        for (int b : bytes) {
            putByte(freeByte++, b);
        }
        return begin + 1;
    }

    void putByte(int b, int v) {
        int word = code[b / 2];
        code[b / 2] = b % 2 == 0 ? (v & 255) << 8 | word & 255 : word & 0xFF00 | v & 255;
        x.poke(CODE + b / 2, code[b / 2]);
    }

    int fault(int process) {
        return x.process(process, 6);
    }

    int top() {
        return x.stack(0, 0);
    }

    /** The next byte of a process, as its frame has it. */
    int next(int process) {
        return x.peek((x.process(process, 2) + 2) % 4096);
    }

    void clearNotes() {
        for (int real = 0; real < 12; real++) {
            x.noted(real);
        }
    }
}
