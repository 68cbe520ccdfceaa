/** Promises 1 to 6 and 16: a new object, pages, notes, poke and peek. */
public final class MemoryTest {
    private static final int NONE = FrameProcessor.NONE;
    private static final Check CHECK = new Check("MemoryTest");

    public static void main(String[] args) {
        newObject();
        mapping();
        protecting();
        noting();
        pokeAndPeek();
        pages();
        addressesWrap();
        CHECK.end();
    }

    private static void newObject() {
        Machine x = new Machine();
        for (int page = 0; page < 16; page++) {
            CHECK.due("new page " + page, x.page(page, 0), page < 12 ? page : NONE);
            CHECK.due("new protection " + page, x.page(page, 1), 0);
        }
        for (int address = 0; address < 3072; address++) {
            CHECK.due("new word", x.view().peek(address), 0);
        }
        for (int real = 0; real < 12; real++) {
            CHECK.due("new notes", x.noted(real), 0);
        }
        int[] free = {0, 0, 0, 0, NONE, 0, 0, NONE};
        for (int p = 0; p < 6; p++) {
            for (int what = 0; what < 8; what++) {
                CHECK.due("new process " + p + " " + what, x.process(p, what), free[what]);
            }
            CHECK.due("new stack", x.stack(p, 0), NONE);
        }
        for (int k = 0; k < 8; k++) {
            CHECK.due("new free", x.free(k), 0);
        }
        CHECK.due("new running", x.running(), NONE);
        CHECK.due("new run", x.run(500), 0);
    }

    private static void mapping() {
        Machine x = new Machine();
        x.poke(300, 7);
        x.map(15, 1);
        CHECK.due("two pages of one real one", x.peek(15 * 256 + 44), 7);
        x.poke(15 * 256 + 45, 8);
        CHECK.due("the other way", x.peek(301), 8);
        x.map(1, NONE);
        CHECK.due("mapped to none", x.page(1, 0), NONE);
        CHECK.illegalState("peek of none", () -> x.peek(300));
        CHECK.illegalState("poke of none", () -> x.poke(300, 1));
        CHECK.due("the words stay", x.peek(15 * 256 + 44), 7);
        x.map(1, 11);
        CHECK.due("the highest real page", x.peek(300), 0);
        x.map(1, 1);
        CHECK.due("back", x.peek(300), 7);
        x.protect(1, true);
        x.map(1, NONE);
        x.map(1, 2);
        CHECK.due("protection is the page's, not the real one's", x.page(1, 1), 1);
        CHECK.outOfBounds("map(-1, 0)", () -> x.map(-1, 0));
        CHECK.outOfBounds("map(16, 0)", () -> x.map(16, 0));
        CHECK.outOfBounds("map(0, 12)", () -> x.map(0, 12));
        CHECK.outOfBounds("map(0, -2)", () -> x.map(0, -2));
        CHECK.outOfBounds("map(16, NONE)", () -> x.map(16, NONE));
        CHECK.due("nothing changed", x.page(0, 0), 0);
    }

    private static void protecting() {
        Machine x = new Machine();
        x.protect(15, true);
        CHECK.due("protected without a real page", x.page(15, 1), 1);
        x.protect(0, true);
        CHECK.due("protected", x.page(0, 1), 1);
        x.poke(5, 6);
        CHECK.due("poke needs no page that is not protected", x.peek(5), 6);
        x.protect(0, false);
        CHECK.due("not any more", x.page(0, 1), 0);
        CHECK.outOfBounds("protect(-1)", () -> x.protect(-1, true));
        CHECK.outOfBounds("protect(16)", () -> x.protect(16, false));
    }

    private static void noting() {
        // push 3, pop into the word at 1600; push the word at 1900
        Bench bench = Bench.ran(1, 3, 2, 6, 64, 8, 0, 2, 7, 108, 7, 0);
        Machine x = bench.x;
        CHECK.due("stopped by HALT", bench.fault(0), 9);
        CHECK.due("the frame's page", x.noted(4), 3);
        CHECK.due("once", x.noted(4), 0);
        CHECK.due("read alone: the global frame's", x.noted(2), 1);
        CHECK.due("read alone: the code's", x.noted(3), 1);
        CHECK.due("written", x.noted(6), 3);
        CHECK.due("read by 7", x.noted(7), 1);
        CHECK.due("the heap's", x.noted(0), 3);
        CHECK.due("neither", x.noted(1), 0);
        x.poke(1600, 1);
        x.peek(1601);
        CHECK.due("poke and peek are not noted", x.noted(6), 0);
        CHECK.outOfBounds("noted(-1)", () -> x.noted(-1));
        CHECK.outOfBounds("noted(12)", () -> x.noted(12));

        // the real page is noted, through whatever page it was reached
        Bench other = new Bench().frames(0, 1);
        other.procedure(0, 0, Bench.ended(1, 9, 2, 15, 5, 8, 0));
        other.x.map(15, 11);
        other.x.start(1, 0);
        other.x.run(3);
        CHECK.due("written through page 15", other.x.noted(11), 3);
        other.x.map(14, 11);
        CHECK.due("seen through page 14", other.x.peek(14 * 256 + 5), 9);
    }

    private static void pokeAndPeek() {
        Machine x = new Machine();
        x.poke(0, 65535);
        CHECK.due("highest", x.peek(0), 65535);
        x.poke(0, 65536);
        CHECK.due("modulo", x.peek(0), 0);
        x.poke(0, -1);
        CHECK.due("modulo, below 0", x.peek(0), 65535);
        x.poke(0, Integer.MIN_VALUE + 5);
        CHECK.due("modulo, far below 0", x.peek(0), 5);
        x.poke(3071, 9);
        CHECK.due("last word that is there", x.peek(3071), 9);
        CHECK.illegalState("peek(3072)", () -> x.peek(3072));
        CHECK.illegalState("poke(4095)", () -> x.poke(4095, 0));
        CHECK.outOfBounds("peek(-1)", () -> x.peek(-1));
        CHECK.outOfBounds("peek(4096)", () -> x.peek(4096));
        CHECK.outOfBounds("poke(-1)", () -> x.poke(-1, 0));
        CHECK.outOfBounds("poke(4096)", () -> x.poke(4096, 0));
        CHECK.outOfBounds("peek(MIN)", () -> x.peek(Integer.MIN_VALUE));
    }

    private static void pages() {
        Machine x = new Machine();
        x.map(14, 3);
        CHECK.due("page(14, 0)", x.page(14, 0), 3);
        CHECK.due("page(15, 0)", x.page(15, 0), NONE);
        CHECK.due("page(0, 2)", x.page(0, 2), NONE);
        CHECK.due("page(0, -1)", x.page(0, -1), NONE);
        CHECK.due("page(16, 0)", x.page(16, 0), NONE);
        CHECK.due("page(-1, 1)", x.page(-1, 1), NONE);
    }

    private static void addressesWrap() {
        // push 77, into the word at 4096 + 1600; push the word at 65535 + 1 + 200
        Bench bench = Bench.ran(1, 77, 2, 22, 64, 8, 0, 2, 255, 255, 7, 201);
        CHECK.due("written modulo 4096", bench.x.peek(1600), 77);
        bench.x.poke(200, 5);
        Bench other = new Bench().frames(0, 1);
        other.x.poke(200, 5);
        other.procedure(0, 0, Bench.ended(2, 255, 255, 7, 201));
        other.x.start(1, 0);
        other.x.run(3);
        CHECK.due("read modulo 4096", other.top(), 5);
    }
}
