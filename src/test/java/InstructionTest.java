/** Instructions 0 to 24, one by one, through promises 7, 8, 14 and 15. */
public final class InstructionTest {
    private static final int NONE = FrameProcessor.NONE;
    private static final Check CHECK = new Check("InstructionTest");

    public static void main(String[] args) {
        pushes();
        locals();
        globals();
        words();
        arithmetic();
        shifts();
        order();
        jumps();
        fields();
        unknown();
        CHECK.end();
    }

    private static void answer(String what, int want, int... bytes) {
        Bench bench = Bench.ran(bytes);
        CHECK.due(what + ": FAULT", bench.fault(0), 9);
        CHECK.due(what + ": how many", bench.x.process(0, 3), 1);
        CHECK.due(what, bench.top(), want);
    }

    private static void pushes() {
        answer("0 does nothing", 9, 0, 0, 1, 9, 0);
        answer("1 255", 255, 1, 255);
        answer("2 255 254", 65534, 2, 255, 254);
        Bench bench = Bench.ran(1, 1, 1, 2, 1, 3);
        CHECK.due("top", bench.x.stack(0, 0), 3);
        CHECK.due("middle", bench.x.stack(0, 1), 2);
        CHECK.due("bottom", bench.x.stack(0, 2), 1);
        CHECK.due("below it", bench.x.stack(0, 3), NONE);
        CHECK.due("above it", bench.x.stack(0, -1), NONE);
        CHECK.due("the next byte", bench.next(0), 65 + 6);
    }

    private static void locals() {
        Bench bench = Bench.ran(1, 41, 4, 0, 1, 42, 4, 3, 3, 0, 3, 3);
        int frame = bench.x.process(0, 2);
        CHECK.due("local 0", bench.x.peek(frame + 4), 41);
        CHECK.due("local 3", bench.x.peek(frame + 7), 42);
        CHECK.due("pushed local 3", bench.x.stack(0, 0), 42);
        CHECK.due("pushed local 0", bench.x.stack(0, 1), 41);
        Bench far = Bench.ran(1, 43, 4, 255);
        CHECK.due("local 255", far.x.peek(far.x.process(0, 2) + 4 + 255), 43);
    }

    private static void globals() {
        Bench bench = Bench.ran(1, 51, 6, 0, 1, 52, 6, 254, 5, 254, 5, 0);
        CHECK.due("G + 1", bench.x.peek(Bench.GLOBAL + 1), 51);
        CHECK.due("G + 255", bench.x.peek(Bench.GLOBAL + 255), 52);
        CHECK.due("pushed 0", bench.x.stack(0, 0), 51);
        CHECK.due("pushed 254", bench.x.stack(0, 1), 52);
        // G + 256 is in the code, where procedure 0 begins
        Bench last = Bench.ran(1, 53, 6, 255, 5, 255);
        CHECK.due("G + 256", last.x.peek(Bench.CODE), 53);
        CHECK.due("pushed 255", last.top(), 53);
    }

    private static void words() {
        Bench bench = Bench.ran(1, 61, 2, 6, 64, 8, 3, 2, 6, 67, 7, 0);
        CHECK.due("p + n", bench.x.peek(1603), 61);
        CHECK.due("pushed", bench.top(), 61);
        CHECK.due("alone", bench.x.process(0, 3), 1);
    }

    private static void arithmetic() {
        answer("ADD", 30, 1, 10, 1, 20, 9);
        answer("ADD modulo", 1, 2, 255, 255, 1, 2, 9);
        answer("SUB", 13, 1, 20, 1, 7, 10);
        answer("SUB below 0", 65535, 1, 7, 1, 8, 10);
        answer("MUL", 1400, 1, 70, 1, 20, 11);
        answer("MUL modulo", 1, 2, 255, 255, 2, 255, 255, 11);
        answer("DIV", 6, 1, 20, 1, 3, 12);
        answer("DIV without sign", 32767, 2, 255, 255, 1, 2, 12);
        answer("DIV by more", 0, 1, 2, 2, 255, 255, 12);
        answer("DIV by 1", 65535, 2, 255, 255, 1, 1, 12);
        answer("AND", 0x0204, 2, 0x12, 0x34, 2, 0x0F, 0x0C, 13);
        answer("OR", 0x1F3C, 2, 0x12, 0x34, 2, 0x0F, 0x0C, 14);
        answer("XOR", 0x1D38, 2, 0x12, 0x34, 2, 0x0F, 0x0C, 15);
    }

    private static void shifts() {
        answer("by 0", 0x1234, 2, 0x12, 0x34, 1, 0, 16);
        answer("upwards by 4", 0x2340, 2, 0x12, 0x34, 1, 4, 16);
        answer("upwards by 15", 0x8000, 1, 3, 1, 15, 16);
        answer("upwards by 16", 0, 1, 3, 1, 16, 16);
        answer("upwards by 32", 0, 1, 3, 1, 32, 16);
        answer("upwards by 32767", 0, 1, 3, 2, 127, 255, 16);
        answer("downwards by 1, 0 comes in", 0x7FFF, 2, 255, 255, 2, 255, 255, 16);
        answer("downwards by 15", 1, 2, 128, 0, 2, 255, 241, 16);
        answer("downwards by 16", 0, 2, 255, 255, 2, 255, 240, 16);
        answer("downwards by 32", 0, 2, 255, 255, 2, 255, 224, 16);
        answer("downwards by 32768", 0, 2, 255, 255, 2, 128, 0, 16);
    }

    private static void order() {
        Bench twice = Bench.ran(1, 8, 17);
        CHECK.due("17: two", twice.x.process(0, 3), 2);
        CHECK.due("17: top", twice.x.stack(0, 0), 8);
        CHECK.due("17: below", twice.x.stack(0, 1), 8);
        answer("18", 1, 1, 1, 1, 2, 18);
        Bench turned = Bench.ran(1, 1, 1, 2, 19);
        CHECK.due("19: top", turned.x.stack(0, 0), 1);
        CHECK.due("19: below", turned.x.stack(0, 1), 2);
        CHECK.due("19: two", turned.x.process(0, 3), 2);
    }

    private static void jumps() {
        answer("20 upwards", 5, 20, 4, 1, 9, 1, 5);
        answer("21 by 0", 5, 1, 0, 21, 4, 1, 9, 1, 5);
        answer("21 by another", 9, 2, 1, 0, 21, 4, 1, 9);
        answer("22 a < b", 5, 1, 1, 1, 2, 22, 4, 1, 9, 1, 5);
        answer("22 a = b", 9, 1, 2, 1, 2, 22, 5, 1, 9, 255, 1, 5);
        answer("22 a > b", 9, 1, 3, 1, 2, 22, 5, 1, 9, 255, 1, 5);
        answer("22 -1 < 0", 5, 2, 255, 255, 1, 0, 22, 4, 1, 9, 1, 5);
        answer("22 32767 < -32768 is not so", 9, 2, 127, 255, 2, 128, 0, 22, 5, 1, 9, 255, 1, 5);
        // to 4, then back to 2, then on to 6
        answer("20 downwards", 7, 20, 6, 1, 7, 20, 4, 20, -4);
        Bench still = new Bench().frames(0, 1);
        int begin = still.procedure(0, 0, 20, 0);
        still.x.start(1, 0);
        CHECK.due("a jump to itself", still.x.run(7), 7);
        CHECK.due("stays", still.next(0), begin);
        Bench low = new Bench().frames(0, 1);
        int there = low.procedure(0, 0, 20, -128);
        low.x.start(1, 0);
        low.x.run(1);
        CHECK.due("-128, modulo 65536", low.next(0), (there - 128) & 65535);
        Bench high = new Bench().frames(0, 1);
        there = high.procedure(0, 0, 20, 127);
        high.x.start(1, 0);
        high.x.run(1);
        CHECK.due("127", high.next(0), there + 127);
        bytesWrap();
    }

    private static void bytesWrap() {
        // procedure 0 begins at byte 65534: its first instruction is at 65535, with its operand at byte 0
        Machine x = new Machine();
        x.poke(32, 512);
        x.poke(512, 768);
        x.poke(768, 65534);
        x.poke((768 + 32767) % 4096, 1);
        x.map(15, 1);
        x.poke(16, 1024);
        x.start(1, 0);
        CHECK.due("where it begins", x.peek(1026), 65535);
        x.run(1);
        CHECK.due("the operand is byte 0", x.stack(0, 0), 255);
        CHECK.due("the next byte", x.peek(1026), 1);
    }

    private static void fields() {
        answer("23: the highest bit", 1, 2, 128, 0, 23, 0x00);
        answer("23: the highest four", 9, 2, 0x9A, 0xBC, 23, 0x03);
        answer("23: the middle eight", 0xAB, 2, 0x9A, 0xBC, 23, 0x47);
        answer("23: the lowest four", 0xC, 2, 0x9A, 0xBC, 23, 0xC3);
        answer("23: all", 0x9ABC, 2, 0x9A, 0xBC, 23, 0x0F);
        answer("23: as far as there are", 0xBC, 2, 0x9A, 0xBC, 23, 0x8F);
        answer("23: the last one alone", 1, 2, 0x9A, 0xBD, 23, 0xFF);
        answer("24: the highest four", 0x5ABC, 2, 0x9A, 0xBC, 2, 0xFF, 0xF5, 24, 0x03);
        answer("24: the middle eight", 0x912C, 2, 0x9A, 0xBC, 2, 0xFF, 0x12, 24, 0x47);
        answer("24: all", 0x1234, 2, 0x9A, 0xBC, 2, 0x12, 0x34, 24, 0x0F);
        answer("24: as far as there are", 0x9A34, 2, 0x9A, 0xBC, 2, 0x12, 0x34, 24, 0x8F);
        answer("24: the last one alone", 0x9ABD, 2, 0x9A, 0xBC, 2, 0x12, 0x35, 24, 0xFF);
    }

    private static void unknown() {
        for (int code = 32; code < 256; code++) {
            if (code < 40 || code > 45) {
                Bench bench = Bench.ran(1, 1, code, 1, 1);
                CHECK.due("FAULT of " + code, bench.fault(0), 9);
                CHECK.due("at " + code, bench.next(0), 67);
                CHECK.due("with one on the stack", bench.x.process(0, 3), 1);
            }
        }
        for (int code = 0; code < 46; code++) {
            if (code < 32 || code > 39) {
                Bench bench = new Bench().frames(0, 4);
                bench.procedure(0, 0, 1, 1, 1, 1, 1, 1, code, 3, 0, Bench.HALT);
                bench.x.start(1, 0);
                bench.x.run(4);
                CHECK.due(code + " is an instruction", bench.fault(0) == 9 ? 1 : 0, 0);
            }
        }
    }
}
