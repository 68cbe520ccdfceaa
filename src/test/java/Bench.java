/** A FrameProcessor with global frame 0 at 512, its code at 768 and, if asked for, frames from 1024 on. */
final class Bench {
    static final int GLOBAL = 512;
    static final int CODE = 768;
    static final int HEAP = 1024;
    /** A code that is no instruction: it stops a program with FAULT 9 and leaves all as it is. */
    static final int HALT = 255;
    private static final int[] SIZES = {8, 12, 16, 24, 32, 48, 64, 96};

    final FrameProcessor x = new FrameProcessor();
    private int freeByte = 64;
    private int freeWord = HEAP;

    Bench() {
        x.poke(32, GLOBAL);
        x.poke(GLOBAL, CODE);
    }

    /** One process, 0, stopped by HALT (or a fault) behind these instructions. */
    static Bench ran(int... bytes) {
        Bench bench = new Bench().frames(0, 8);
        bench.procedure(0, 0, ended(bytes));
        bench.x.start(1, 3);
        bench.x.run(500);
        return bench;
    }

    static int[] ended(int... bytes) {
        int[] all = java.util.Arrays.copyOf(bytes, bytes.length + 1);
        all[bytes.length] = HALT;
        return all;
    }

    /** Puts so many more frames of a class in front of its free ones. */
    Bench frames(int k, int count) {
        for (int i = 0; i < count; i++) {
            x.poke(freeWord, x.peek(16 + k));
            x.poke(16 + k, freeWord);
            freeWord += SIZES[k];
        }
        return this;
    }

    /** A procedure of global frame 0, and the byte where its instructions begin. */
    int procedure(int e, int k, int... bytes) {
        int begin = freeByte;
        x.poke(CODE + e, begin);
        putByte(freeByte++, k);
        for (int b : bytes) {
            putByte(freeByte++, b);
        }
        return begin + 1;
    }

    void putByte(int b, int v) {
        int address = CODE + b / 2;
        int word = x.peek(address);
        x.poke(address, b % 2 == 0 ? (v & 255) << 8 | word & 255 : word & 0xFF00 | v & 255);
    }

    int fault(int process) {
        return x.process(process, 6);
    }

    int top() {
        return x.stack(0, 0);
    }

    /** The next byte of a process, as its frame has it. */
    int next(int process) {
        return x.peek((x.process(process, 2) + 2) % 4096);
    }

    void clearNotes() {
        for (int real = 0; real < 12; real++) {
            x.noted(real);
        }
    }

    /** All that can be asked without changing anything, as one text. */
    String picture() {
        StringBuilder text = new StringBuilder();
        for (int p = 0; p < 6; p++) {
            for (int what = 0; what < 8; what++) {
                text.append(x.process(p, what)).append(' ');
            }
            for (int k = 0; k < 9; k++) {
                text.append(x.stack(p, k)).append(' ');
            }
            text.append('\n');
        }
        text.append(x.running()).append('\n');
        return text.append(memoryPicture()).toString();
    }

    /** The pages, their words and the lists of free frames. */
    String memoryPicture() {
        StringBuilder text = new StringBuilder();
        for (int page = 0; page < 16; page++) {
            text.append(x.page(page, 0)).append(' ').append(x.page(page, 1)).append(':');
            for (int i = 0; i < 256 && x.page(page, 0) != FrameProcessor.NONE; i++) {
                text.append(x.peek(page * 256 + i)).append(' ');
            }
            text.append('\n');
        }
        for (int k = 0; k < 8; k++) {
            text.append(x.free(k)).append(' ');
        }
        return text.toString();
    }
}
