/** The heap: TAKE, instructions 29 and 30, and promise 17. */
public final class HeapTest {
    private static final int NONE = FrameProcessor.NONE;
    private static final Check CHECK = new Check("HeapTest");

    public static void main(String[] args) {
        counting();
        taking();
        takingFromAbove();
        takingNone();
        whatTakingReads();
        givingBack();
        CHECK.end();
    }

    private static void counting() {
        Bench bench = new Bench().frames(0, 4).frames(7, 2);
        Machine x = bench.x;
        CHECK.due("free(0)", x.free(0), 4);
        CHECK.due("free(7)", x.free(7), 2);
        CHECK.due("free(3)", x.free(3), 0);
        CHECK.due("free(8)", x.free(8), NONE);
        CHECK.due("free(-1)", x.free(-1), NONE);
        x.poke(19, 100);
        x.poke(100, 100);
        CHECK.due("a circle", x.free(3), 600);
        x.poke(20, 3072);
        CHECK.due("a frame without a page", x.free(4), 1);
        x.poke(20, 4096 + 200);
        x.poke(200, 300);
        CHECK.due("an address beyond 4095", x.free(4), 2);
        x.map(0, NONE);
        CHECK.due("no page for the lists", x.free(0), 0);
        CHECK.due("nothing noted", x.noted(0) + x.noted(4), 0);
        chain(599);
        chain(600);
        chain(601);
    }

    /** So many frames, each one word on from the one before, that a program gives back: 512 calls make too few. */
    private static void chain(int length) {
        Bench bench = new Bench();
        Machine x = bench.x;
        x.poke(17, 1024);
        // local 0 up to local 1: give it back, add one
        bench.procedure(0, 1, 3, 0, 30, 3, 0, 1, 1, 9, 17, 4, 0, 3, 1, 22, -13, Bench.HALT);
        x.start(1, 0);
        x.poke(1028, 2048);
        x.poke(1029, 2048 + length);
        while (x.process(0, 0) == 1) {
            x.run(500);
        }
        CHECK.due("a list of " + length, x.free(0), Math.min(length, 600));
    }

    private static void taking() {
        Bench bench = new Bench().frames(0, 1).frames(2, 3);
        Machine x = bench.x;
        int first = x.peek(18);
        int second = x.peek(first);
        x.poke(first + 3, 99);
        // k is taken modulo 8
        bench.procedure(0, 0, Bench.ended(29, 2, 29, 250));
        x.start(1, 0);
        x.run(3);
        CHECK.due("two taken", x.process(0, 3), 2);
        CHECK.due("the first free one first", x.stack(0, 1), first);
        CHECK.due("then the next", x.stack(0, 0), second);
        CHECK.due("one is left", x.free(2), 1);
        CHECK.due("word 3 is the class", x.peek(first + 3), 2);
        CHECK.due("word 0 stays", x.peek(first), second);
    }

    private static void takingFromAbove() {
        Bench bench = new Bench().frames(0, 1).frames(3, 1).frames(5, 1).frames(7, 1);
        Machine x = bench.x;
        int three = x.peek(19);
        int five = x.peek(21);
        int seven = x.peek(23);
        bench.procedure(0, 0, Bench.ended(29, 1, 29, 4, 29, 0));
        x.start(1, 0);
        x.run(500);
        CHECK.due("of class 3 for 1", x.stack(0, 2), three);
        CHECK.due("its class", x.peek(three + 3), 3);
        CHECK.due("of class 5 for 4", x.stack(0, 1), five);
        CHECK.due("its class", x.peek(five + 3), 5);
        CHECK.due("of class 7 for 0", x.stack(0, 0), seven);
        CHECK.due("its class", x.peek(seven + 3), 7);
    }

    private static void takingNone() {
        Bench bench = new Bench().frames(0, 3).frames(2, 1);
        Machine x = bench.x;
        bench.procedure(0, 0, Bench.ended(29, 3));
        x.start(1, 0);
        CHECK.due("run", x.run(500), 1);
        CHECK.due("FAULT 3, for lower classes do not serve", bench.fault(0), 3);
        CHECK.due("free(0)", x.free(0), 2);
        bench.frames(7, 1);
        x.resume(0);
        x.run(1);
        CHECK.due("resumed with a frame", x.process(0, 3), 1);
        Bench empty = new Bench();
        empty.procedure(0, 0, Bench.HALT);
        CHECK.illegalState("start without frames", () -> empty.x.start(1, 0));
    }

    private static void whatTakingReads() {
        Bench bench = new Bench().frames(0, 1);
        Machine x = bench.x;
        x.poke(22, 2048);
        x.poke(2048, 2304);
        bench.procedure(0, 0, Bench.ended(29, 4));
        x.start(1, 0);
        bench.clearNotes();
        x.protect(8, true);
        x.run(1);
        CHECK.due("word 3 cannot be written", bench.fault(0), 2);
        CHECK.due("the list is as before", x.peek(22), 2048);
        CHECK.due("the list was written", x.noted(0), 3);
        CHECK.due("the frame was read", x.noted(8), 1);
        CHECK.due("the next was not", x.noted(9), 0);
        x.protect(8, false);
        x.map(8, NONE);
        x.resume(0);
        x.run(1);
        CHECK.due("word 0 cannot be read", bench.fault(0), 1);
        CHECK.due("the list was not written", x.noted(0), 1);
    }

    private static void givingBack() {
        for (int k = 0; k < 8; k++) {
            Bench each = new Bench().frames(0, 1);
            each.procedure(0, 0, Bench.ended(2, 6, 64, 30));
            each.x.start(1, 0);
            each.x.poke(1603, k + 65528);
            each.x.run(2);
            CHECK.due("free(" + k + ")", each.x.free(k), 1);
        }
        Bench bench = new Bench().frames(0, 1).frames(2, 1);
        Machine x = bench.x;
        x.poke(1603, 8 + 2);
        int first = x.peek(18);
        bench.procedure(0, 0, Bench.ended(2, 6, 64, 30));
        x.start(1, 0);
        bench.clearNotes();
        x.run(500);
        CHECK.due("it is the first one now", x.peek(18), 1600);
        CHECK.due("and the other follows", x.peek(1600), first);
        CHECK.due("free(2)", x.free(2), 2);
        CHECK.due("word 3 stays", x.peek(1603), 10);
        CHECK.due("popped", x.process(0, 3), 0);
        CHECK.due("noted", x.noted(6), 3);

        // its word 0 is written ahead of the list
        Bench other = new Bench().frames(0, 1);
        other.procedure(0, 0, Bench.ended(2, 6, 64, 30));
        other.x.start(1, 0);
        other.x.run(1);
        other.clearNotes();
        other.x.protect(0, true);
        other.x.run(1);
        CHECK.due("the list cannot be written", other.fault(0), 2);
        CHECK.due("word 0 was", other.x.noted(6), 3);
        CHECK.due("the list was read", other.x.noted(0), 1);
        CHECK.due("the stack is as before", other.top(), 1600);
    }
}
