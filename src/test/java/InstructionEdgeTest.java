/** The boundary cases of instructions 0 to 24, and of what is told of all instructions: a test for each sentence. */
public final class InstructionEdgeTest {
    private static final int NONE = FrameProcessor.NONE;
    private static final Check CHECK = new Check("InstructionEdgeTest");
    /** How many words each instruction pops, and then pushes; -1: there is no such one. */
    private static final int[] POPS = {
        0, 0, 0, 0, 1, 0, 1, 1, 2, 2, 2, 2, 2, 2, 2, 2, 2, 1, 1, 2, 0, 1, 2, 1, 2, 0, 0, 0, 1, 0, 1, 2,
        -1, -1, -1, -1, -1, -1, -1, -1, 1, 1, 3, 1, 1, 0
    };
    private static final int[] PUSHES = {
        0, 1, 1, 1, 0, 1, 0, 1, 0, 1, 1, 1, 1, 1, 1, 1, 1, 2, 0, 2, 0, 0, 0, 1, 1, 0, 0, 0, 0, 1, 0, 0,
        0, 0, 0, 0, 0, 0, 0, 0, 0, 0, 0, 0, 0, 0
    };

    public static void main(String[] args) {
        nextByteModulo65536();
        jumpModulo65536();
        lastWrite();
        tooFewOnTheStack();
        tooManyOnTheStack();
        eightOnTheStack();
        fullAheadOfTheLastWrite();
        notesOfAFault();
        pushes();
        locals();
        globals();
        divisionByZero();
        divisionCut();
        shifts();
        jumpFarthest();
        jumpIfZero();
        jumpIfLess();
        fieldsTaken();
        fieldsPut();
        noSuchInstruction();
        CHECK.end();
    }

    private static int[] sevens(int count) {
        int[] words = new int[count];
        java.util.Arrays.fill(words, 7);
        return words;
    }

    /** Global frame 0 with its code where every byte can be put, and process 0 at one of its bytes. */
    private static Bench atByte(int first, int... bytes) {
        Bench bench = Bench.at(Bench.words());
        bench.x.map(15, 11);
        bench.x.map(14, 10);
        for (int i = 0; i < bytes.length; i++) {
            int b = (first + i) % 65536;
            int address = (Bench.CODE + b / 2) % 4096;
            int word = bench.x.peek(address);
            bench.x.poke(address, b % 2 == 0 ? bytes[i] << 8 | word & 255 : word & 0xFF00 | bytes[i]);
        }
        bench.x.poke(bench.x.process(0, 2) + 2, first);
        return bench;
    }

    /** "its frame's word 2 becomes the byte behind it": behind 65535 comes 0. */
    private static void nextByteModulo65536() {
        Bench single = atByte(65535, 0);
        single.x.run(1);
        CHECK.due("behind byte 65535", single.next(0), 0);
        Bench pair = atByte(65534, 1, 200);
        CHECK.leaves("its operand is byte 65535", pair, 1, 200);
        CHECK.due("behind bytes 65534 and 65535", pair.next(0), 0);
        Bench split = atByte(65535, 1, 201);
        CHECK.leaves("its operand is byte 0", split, 1, 201);
        CHECK.due("behind byte 0", split.next(0), 1);
        Bench three = atByte(65535, 2, 18, 52);
        CHECK.leaves("its operands are bytes 0 and 1", three, 1, 0x1234);
        CHECK.due("behind byte 1", three.next(0), 2);
    }

    /** "or where it jumps": below 0 and above 65535, too. */
    private static void jumpModulo65536() {
        int[][] cases = {
            {0, 128, 65408}, {127, 128, 65535}, {128, 128, 0}, {65530, 127, 121}, {65409, 127, 0}, {5, 251, 0}
        };
        for (int[] each : cases) {
            Bench bench = atByte(each[0], 20, each[1]);
            bench.x.run(1);
            CHECK.due("from " + each[0] + " by " + each[1], bench.next(0), each[2]);
        }
    }

    /** "the last write": what the instruction itself writes there does not stay. */
    private static void lastWrite() {
        Bench bench = Bench.at(Bench.words(4711, 1080 + 2), 8, 0);
        CHECK.due("the frame", bench.x.process(0, 2), 1080);
        int before = bench.next(0);
        bench.x.run(1);
        CHECK.due("the byte behind 8", bench.next(0), before + 2);
        Bench entered = Bench.at(Bench.words(1080 + 2), 41);
        before = entered.next(0);
        entered.x.run(1);
        CHECK.due("the byte behind 41", entered.next(0), before + 1);
    }

    /** "FAULT 5: fewer on the stack than are popped". */
    private static void tooFewOnTheStack() {
        for (int code = 0; code < 46; code++) {
            for (int have = 0; have < POPS[code]; have++) {
                CHECK.faults(code + " with " + have, Bench.at(sevens(have), code, 0), 5);
            }
            if (POPS[code] >= 0) {
                Bench enough = Bench.at(sevens(POPS[code]), code, 0);
                enough.x.run(1);
                CHECK.due(code + " with enough", enough.fault(0) == 5 ? 1 : 0, 0);
            }
        }
    }

    /** "6: more than 8 are on it at its end". */
    private static void tooManyOnTheStack() {
        for (int code = 0; code < 46; code++) {
            if (POPS[code] >= 0 && PUSHES[code] > POPS[code]) {
                CHECK.faults(code + " with 8", Bench.at(sevens(8), code, 0), 6);
                Bench seven = Bench.at(sevens(7), code, 0, 0);
                seven.x.run(1);
                CHECK.due(code + " with 7", seven.x.process(0, 3), 8);
                CHECK.due(code + " with 7: FAULT", seven.fault(0), 0);
            }
        }
    }

    /** "a STACK of at most 8 words": what does not make it more can be done with 8. */
    private static void eightOnTheStack() {
        int[] done = {0, 4, 6, 7, 8, 9, 16, 17, 18, 19, 20, 21, 22, 23, 24};
        for (int code : done) {
            if (PUSHES[code] <= POPS[code]) {
                Bench eight = Bench.at(sevens(8), code, 2);
                eight.x.run(1);
                CHECK.due(code + " with 8: FAULT", eight.fault(0), 0);
                CHECK.due(code + " with 8", eight.x.process(0, 3), 8 - POPS[code] + PUSHES[code]);
            }
        }
        Bench full = Bench.at(Bench.words(1, 2, 3, 4, 5, 6, 7, 8));
        for (int k = 0; k < 8; k++) {
            CHECK.due("word " + k, full.x.stack(0, k), 8 - k);
        }
        CHECK.due("word 8", full.x.stack(0, 8), NONE);
    }

    /** "At its end (behind FAULT 6) its frame's word 2 becomes the byte behind it". */
    private static void fullAheadOfTheLastWrite() {
        Bench protect = Bench.at(sevens(8), 1, 1);
        protect.x.protect(4, true);
        protect.clearNotes();
        CHECK.faults("full, and word 2 cannot be written", protect, 6);
        Bench noted = Bench.at(sevens(8), 1, 1);
        noted.clearNotes();
        CHECK.faults("full", noted, 6);
        CHECK.due("word 2 was not written", noted.x.noted(4), 1);
        Bench read = Bench.at(sevens(8), 5, 255);
        read.x.poke(32, 3071);
        read.x.poke(3071, Bench.CODE);
        CHECK.faults("no page to read comes ahead of full", read, 1);
        Bench taken = Bench.at(sevens(8), 29, 7);
        CHECK.faults("no frame comes ahead of full", taken, 3);
    }

    /** "A FAULT: all is as before (also notes of pages but those of what it read and wrote until then)". */
    private static void notesOfAFault() {
        Bench bench = Bench.at(Bench.words(9, 2048), 8, 0);
        bench.clearNotes();
        bench.x.poke(0, 4711);
        bench.x.protect(4, true);
        CHECK.faults("the last write cannot be done", bench, 2);
        int[] due = {1, 0, 1, 1, 1, 0, 0, 0, 3, 0, 0, 0};
        for (int real = 0; real < 12; real++) {
            CHECK.due("noted of " + real, bench.x.noted(real), due[real]);
        }
        bench.x.protect(4, false);
        bench.x.resume(0);
        bench.x.run(1);
        CHECK.due("done behind resume()", bench.x.peek(2048), 9);
    }

    /** "1 b: push b. 2 b c: push 256 * b + c." */
    private static void pushes() {
        CHECK.leaves("1 0", Bench.at(Bench.words(), 1, 0), 1, 0);
        CHECK.leaves("1 255", Bench.at(Bench.words(), 1, 255), 1, 255);
        CHECK.leaves("2 0 0", Bench.at(Bench.words(), 2, 0, 0), 1, 0);
        CHECK.leaves("2 0 255", Bench.at(Bench.words(), 2, 0, 255), 1, 255);
        CHECK.leaves("2 255 0", Bench.at(Bench.words(), 2, 255, 0), 1, 65280);
        CHECK.leaves("2 255 255", Bench.at(Bench.words(), 2, 255, 255), 1, 65535);
    }

    /** "3 n: push local n; 4 n: pop, into local n.": n goes from 0 up to 255, whatever the class of the frame. */
    private static void locals() {
        int[] edges = {0, 3, 4, 127, 128, 255};
        for (int n : edges) {
            Bench into = Bench.at(Bench.words(7, 4711), 4, n);
            int frame = into.x.process(0, 2);
            CHECK.leaves("4 " + n, into, 1, 7);
            CHECK.due("local " + n, into.x.peek(frame + 4 + n), 4711);
            Bench from = Bench.at(Bench.words(), 3, n);
            from.x.poke(frame + 4 + n, 4712);
            CHECK.leaves("3 " + n, from, 1, 4712);
        }
    }

    /** "5 n: push the word at G + 1 + n; 6 n: pop, into that." */
    private static void globals() {
        int[] edges = {0, 127, 128, 255};
        for (int n : edges) {
            Bench into = Bench.at(Bench.words(7, 4711), 6, n);
            CHECK.leaves("6 " + n, into, 1, 7);
            CHECK.due("the word at G + 1 + " + n, into.x.peek(Bench.GLOBAL + 1 + n), 4711);
            Bench from = Bench.at(Bench.words(), 5, n);
            from.x.poke(Bench.GLOBAL + 1 + n, 4712);
            CHECK.leaves("5 " + n, from, 1, 4712);
        }
    }

    /** "12 DIV (cut; FAULT 7 by 0)". */
    private static void divisionByZero() {
        CHECK.faults("7 by 0", Bench.at(Bench.words(7, 0), 12), 7);
        CHECK.faults("0 by 0", Bench.at(Bench.words(0, 0), 12), 7);
        CHECK.faults("65535 by 0", Bench.at(Bench.words(65535, 0), 12), 7);
        CHECK.faults("0 alone: FAULT 5 comes first", Bench.at(Bench.words(0), 12), 5);
    }

    /** "12 DIV (cut". */
    private static void divisionCut() {
        int[][] cases = {
            {0, 1, 0}, {1, 1, 1}, {1, 2, 0}, {7, 4, 1}, {65535, 1, 65535}, {65535, 2, 32767}, {65534, 65535, 0},
            {65535, 65535, 1}, {32768, 65535, 0}, {65535, 32768, 1}
        };
        for (int[] each : cases) {
            CHECK.leaves(each[0] + " by " + each[1], Bench.at(Bench.words(each[0], each[1]), 12), 1, each[2]);
        }
    }

    /** "a shifted by b, as a number with sign: upwards, or, below 0, downwards (0 comes in: 0 by 16 and more)". */
    private static void shifts() {
        int[][] cases = {
            {65535, 0, 65535}, {65535, 1, 65534}, {65535, 15, 32768}, {65535, 16, 0}, {65535, 17, 0}, {65535, 31, 0},
            {65535, 32, 0}, {65535, 33, 0}, {65535, 32767, 0}, {65535, -1, 32767}, {65535, -15, 1}, {65535, -16, 0},
            {65535, -17, 0}, {65535, -31, 0}, {65535, -32, 0}, {65535, -33, 0}, {65535, -32768, 0}, {32768, -15, 1}
        };
        for (int[] each : cases) {
            Bench bench = Bench.at(Bench.words(each[0], each[1] & 65535), 16);
            CHECK.leaves(each[0] + " by " + each[1], bench, 1, each[2]);
        }
    }

    /** "20 d, with d -128 .. 127: the next byte is d from this instruction's first one". */
    private static void jumpFarthest() {
        int[] edges = {-128, -1, 0, 1, 127};
        for (int d : edges) {
            Bench always = atByte(300, 20, d & 255);
            always.x.run(1);
            CHECK.due("20 " + d, always.next(0), 300 + d);
            Bench zero = atByte(298, 1, 0, 21, d & 255);
            zero.x.run(2);
            CHECK.due("21 " + d, zero.next(0), 300 + d);
            Bench less = atByte(296, 1, 0, 1, 1, 22, d & 255);
            less.x.run(3);
            CHECK.due("22 " + d, less.next(0), 300 + d);
        }
    }

    /** "if what is popped is 0". */
    private static void jumpIfZero() {
        int[] others = {1, 255, 256, 32768, 65280, 65535};
        for (int word : others) {
            Bench bench = Bench.at(Bench.words(word), 21, 50);
            int before = bench.next(0);
            CHECK.leaves("21 of " + word, bench, 0, NONE);
            CHECK.due("goes on behind it", bench.next(0), before + 2);
        }
        Bench bench = Bench.at(Bench.words(0), 21, 50);
        int before = bench.next(0);
        CHECK.leaves("21 of 0", bench, 0, NONE);
        CHECK.due("jumps", bench.next(0), before + 50);
    }

    /** "pop b, pop a, if a < b, both with sign". */
    private static void jumpIfLess() {
        int[] edges = {-32768, -32767, -1, 0, 1, 32766, 32767};
        for (int a : edges) {
            for (int b : edges) {
                Bench bench = Bench.at(Bench.words(a & 65535, b & 65535), 22, 50);
                int before = bench.next(0);
                CHECK.leaves("22 of " + a + " and " + b, bench, 0, NONE);
                CHECK.due(a + " < " + b, bench.next(0), before + (a < b ? 50 : 2));
            }
        }
    }

    /** "its bits from s / 16 on, counted from the highest (0), s modulo 16 and one more (as far as there are)". */
    private static void fieldsTaken() {
        for (int s = 0; s < 256; s++) {
            int due = 0;
            for (int bit = s / 16; bit <= s / 16 + s % 16 && bit < 16; bit++) {
                due = due * 2 + (0xB2D9 >> 15 - bit) % 2;
            }
            CHECK.leaves("23 " + s, Bench.at(Bench.words(0xB2D9), 23, s), 1, due);
        }
    }

    /** "push v with these bits those of f, its lowest ones". */
    private static void fieldsPut() {
        for (int s = 0; s < 256; s++) {
            CHECK.leaves("24 " + s, Bench.at(Bench.words(0xB2D9, 0x6A35), 24, s), 1, put(0xB2D9, 0x6A35, s));
            CHECK.leaves("24 " + s, Bench.at(Bench.words(0, 65535), 24, s), 1, put(0, 65535, s));
        }
    }

    private static int put(int v, int f, int s) {
        int last = Math.min(15, s / 16 + s % 16);
        int word = v;
        for (int bit = last, from = 0; bit >= s / 16; bit--, from++) {
            int one = 1 << 15 - bit;
            word = (f >> from) % 2 == 1 ? word | one : word & ~one;
        }
        return word;
    }

    /** "Others: FAULT 9." */
    private static void noSuchInstruction() {
        int[] edges = {32, 33, 39, 46, 47, 127, 128, 254, 255};
        for (int code : edges) {
            CHECK.faults("code " + code, Bench.at(sevens(3), code, 1, 1), 9);
            CHECK.faults("code " + code + ", with nothing on the stack", Bench.at(sevens(0), code), 9);
            CHECK.faults("code " + code + ", with a full stack", Bench.at(sevens(8), code), 9);
        }
        int[] inside = {0, 31, 40, 45};
        for (int code : inside) {
            Bench bench = Bench.at(sevens(3), code);
            bench.x.run(1);
            CHECK.due("code " + code, bench.fault(0) == 9 ? 1 : 0, 0);
        }
    }
}
