/** The boundary cases that promises 1 to 17 name, and calls that are refused: a test for each sentence. */
public final class PromiseEdgeTest {
    private static final int NONE = FrameProcessor.NONE;
    private static final Class<IndexOutOfBoundsException> OUTSIDE = IndexOutOfBoundsException.class;
    private static final Class<IllegalStateException> STATE = IllegalStateException.class;
    private static final Class<IllegalArgumentException> ARGUMENT = IllegalArgumentException.class;
    private static final int FREE = 0;
    private static final int READY = 1;
    private static final int BLOCKED = 2;
    private static final int WAITING = 3;
    private static final int STOPPED = 4;
    private static final int MONITOR = 2048;
    private static final int CONDITION = 2304;
    private static final int[] OUTSIDE_PROCESSES = {Integer.MIN_VALUE, -1, 6, Integer.MAX_VALUE};
    private static final int[] OUTSIDE_ADDRESSES = {Integer.MIN_VALUE, -4096, -1, 4096, 65536, Integer.MAX_VALUE};
    private static final Check CHECK = new Check("PromiseEdgeTest");

    public static void main(String[] args) {
        newObject();
        noneIsMinusOne();
        mapRefused();
        mapAccepted();
        protectRefused();
        notedRefused();
        notedNoMore();
        pokeRefused();
        pokeModulo65536();
        peekRefused();
        startRefusedWhenFull();
        startRefusedByFaults();
        startNotesWhatItRead();
        startPriorityModulo8();
        startLinkOfOtherBits();
        runRefused();
        runAccepted();
        resumeRefused();
        resumeAtTheSameInstruction();
        killRefused();
        killAccepted();
        interruptRefused();
        interruptOfNobody();
        interruptThatDoesNothing();
        interruptOfTheFirst();
        tickRefused();
        tickAccepted();
        ticksTogether();
        ticksApart();
        askingChangesNothing();
        runningNone();
        processOutside();
        processInEachState();
        stackOutside();
        pageOutside();
        freeOutside();
        freeInACircle();
        freeWithoutPages();
        CHECK.end();
    }

    /** Six processes: 0 STOPPED, 1 BLOCKED, 2 WAITING, 3 READY, 4 and 5 FREE; each with 9 below on its stack. */
    private static Bench inEachState() {
        Bench bench = new Bench().frames(0, 8);
        Machine x = bench.x;
        bench.procedure(0, 0, 1, 9, Bench.HALT);
        bench.procedure(1, 0, 1, 9, 2, MONITOR >> 8, 0, 40);
        bench.procedure(2, 0, 1, 9, 2, CONDITION >> 8, 1, 2, CONDITION >> 8, 0, 1, 50, 42);
        bench.procedure(3, 0, 1, 9, 20, 0);
        x.poke(MONITOR, 1);
        x.start(1, 1);
        x.start(3, 2);
        x.start(5, 3);
        x.run(500);
        x.start(7, 4);
        x.run(1);
        bench.clearNotes();
        return bench;
    }

    /** "All is as told at first; all processes are FREE." */
    private static void newObject() {
        Machine x = new Machine();
        int[] due = {FREE, 0, 0, 0, NONE, 0, 0, NONE};
        for (int p = 0; p < 6; p++) {
            for (int what = 0; what < 8; what++) {
                CHECK.due("process(" + p + ", " + what + ")", x.process(p, what), due[what]);
            }
            CHECK.due("stack(" + p + ", 0)", x.stack(p, 0), NONE);
        }
        for (int page = 0; page < 16; page++) {
            CHECK.due("page(" + page + ", 0)", x.page(page, 0), page < 12 ? page : NONE);
            CHECK.due("page(" + page + ", 1)", x.page(page, 1), 0);
        }
        for (int address = 0; address < 3072; address++) {
            CHECK.due("peek(" + address + ")", x.view().peek(address), 0);
        }
        for (int real = 0; real < 12; real++) {
            CHECK.due("noted(" + real + ")", x.noted(real), 0);
        }
        CHECK.due("running()", x.running(), NONE);
        CHECK.due("run(500)", x.run(500), 0);
        CHECK.due("tick(100000)", x.tick(100000), 0);
        CHECK.illegalState("no frame is free", () -> x.start(1, 0));
    }

    /** "NONE = -1: None." */
    private static void noneIsMinusOne() {
        CHECK.due("NONE", FrameProcessor.NONE, -1);
    }

    /** map: "IndexOutOfBoundsException: no such page, real page". */
    private static void mapRefused() {
        Machine x = inEachState().x;
        int[][] cases = {{-1, 0}, {16, 0}, {0, -2}, {0, 12}, {-1, NONE}, {16, NONE}, {15, 12}, {12, -2}, {-1, 12}};
        for (int[] each : cases) {
            CHECK.refused("map(" + each[0] + ", " + each[1] + ")", OUTSIDE, x, () -> x.map(each[0], each[1]));
        }
        int low = Integer.MIN_VALUE;
        int high = Integer.MAX_VALUE;
        CHECK.refused("map(MIN, 0)", OUTSIDE, x, () -> x.map(low, 0));
        CHECK.refused("map(MAX, 0)", OUTSIDE, x, () -> x.map(high, 0));
        CHECK.refused("map(0, MIN)", OUTSIDE, x, () -> x.map(0, low));
        CHECK.refused("map(0, MAX)", OUTSIDE, x, () -> x.map(0, high));
    }

    /** "A page is mapped to a real one, or to none (NONE)." */
    private static void mapAccepted() {
        int[] pages = {0, 15};
        int[] reals = {0, 11, NONE};
        for (int page : pages) {
            for (int real : reals) {
                Machine x = new Machine();
                x.poke(0, 4711);
                x.poke(11 * 256, 4712);
                x.map(page, real);
                CHECK.due("page(" + page + ", 0)", x.page(page, 0), real);
                CHECK.due("is not protected", x.page(page, 1), 0);
                if (real == NONE) {
                    CHECK.illegalState("a word of none", () -> x.peek(page * 256));
                } else {
                    CHECK.due("a word", x.peek(page * 256), real == 0 ? 4711 : 4712);
                }
                x.map(page, real);
                CHECK.due("once more", x.page(page, 0), real);
            }
        }
    }

    /** protect: "IndexOutOfBoundsException: no such page". */
    private static void protectRefused() {
        Machine x = inEachState().x;
        int[] pages = {Integer.MIN_VALUE, -1, 16, Integer.MAX_VALUE};
        for (int page : pages) {
            CHECK.refused("protect(" + page + ", true)", OUTSIDE, x, () -> x.protect(page, true));
            CHECK.refused("protect(" + page + ", false)", OUTSIDE, x, () -> x.protect(page, false));
        }
        int[] edges = {0, 15};
        for (int page : edges) {
            x.protect(page, true);
            CHECK.due("page(" + page + ", 1)", x.page(page, 1), 1);
            x.protect(page, true);
            CHECK.due("twice", x.page(page, 1), 1);
            x.protect(page, false);
            CHECK.due("no more", x.page(page, 1), 0);
        }
    }

    /** noted: "IndexOutOfBoundsException: no such real page". */
    private static void notedRefused() {
        Machine x = inEachState().x;
        int[] reals = {Integer.MIN_VALUE, -1, 12, 15, Integer.MAX_VALUE};
        for (int real : reals) {
            CHECK.refused("noted(" + real + ")", OUTSIDE, x, () -> x.noted(real));
        }
    }

    /** "1 if USED, and 2 if CHANGED; it is noted no more". */
    private static void notedNoMore() {
        int[] reals = {0, 11};
        for (int real : reals) {
            Bench read = Bench.at(Bench.words(real * 256), 7, 0);
            read.clearNotes();
            read.x.run(1);
            CHECK.due("read", read.x.noted(real), 1);
            CHECK.due("no more", read.x.noted(real), 0);
            Bench written = Bench.at(Bench.words(1, real * 256), 8, 0);
            written.clearNotes();
            written.x.run(1);
            CHECK.due("written", written.x.noted(real), 3);
            CHECK.due("no more", written.x.noted(real), 0);
        }
    }

    /** poke: "IndexOutOfBoundsException: no such address", "IllegalStateException: its page is mapped to none". */
    private static void pokeRefused() {
        Machine x = inEachState().x;
        for (int address : OUTSIDE_ADDRESSES) {
            CHECK.refused("poke(" + address + ", 1)", OUTSIDE, x, () -> x.poke(address, 1));
        }
        CHECK.refused("poke(3072, 1)", STATE, x, () -> x.poke(3072, 1));
        CHECK.refused("poke(4095, 1)", STATE, x, () -> x.poke(4095, 1));
        x.protect(0, true);
        x.map(0, NONE);
        CHECK.refused("poke(0, 1)", STATE, x, () -> x.poke(0, 1));
        CHECK.refused("poke(255, 1)", STATE, x, () -> x.poke(255, 1));
        x.poke(3071, 1);
        CHECK.due("the word ahead of those of none", x.peek(3071), 1);
    }

    /** "The word at an address becomes v modulo 65536." */
    private static void pokeModulo65536() {
        int[][] cases = {
            {0, 0}, {65535, 65535}, {65536, 0}, {65537, 1}, {131071, 65535}, {-1, 65535}, {-65535, 1}, {-65536, 0},
            {Integer.MAX_VALUE, 65535}, {Integer.MIN_VALUE, 0}, {Integer.MIN_VALUE + 1, 1}
        };
        Machine x = new Machine();
        for (int[] each : cases) {
            x.poke(0, each[0]);
            CHECK.due("poke(0, " + each[0] + ")", x.peek(0), each[1]);
        }
    }

    /** peek: "IndexOutOfBoundsException: no such address", "IllegalStateException: its page is mapped to none". */
    private static void peekRefused() {
        Machine x = inEachState().x;
        for (int address : OUTSIDE_ADDRESSES) {
            CHECK.refused("peek(" + address + ")", OUTSIDE, x, () -> x.peek(address));
        }
        CHECK.refused("peek(3072)", STATE, x, () -> x.peek(3072));
        CHECK.refused("peek(4095)", STATE, x, () -> x.peek(4095));
        x.map(15, 0);
        x.poke(255, 4711);
        CHECK.due("peek(4095)", x.peek(4095), 4711);
    }

    /** start: "IllegalStateException: a FAULT 8": none is FREE, ahead of all else. */
    private static void startRefusedWhenFull() {
        Machine x = inEachState().x;
        CHECK.due("the fifth", x.start(7, 0), 4);
        CHECK.due("the sixth", x.start(7, 0), 5);
        for (int real = 0; real < 12; real++) {
            x.noted(real);
        }
        int[] links = {7, 0, 1600, 1602, 3074};
        for (int link : links) {
            CHECK.refused("start(" + link + ", 0), the seventh", STATE, x, () -> x.start(link, 0));
        }
        x.kill(0);
        CHECK.due("one is FREE again", x.start(7, 0), 0);
    }

    /** start: "IllegalStateException: a FAULT 1 .. 4, 8 (nothing is changed but what is noted of pages)". */
    private static void startRefusedByFaults() {
        startRefused("link 0", 0, 0, 0);
        startRefused("link 65536, a word 0", 65536, 0, 0);
        startRefused("a frame", 1600, 0, 0);
        startRefused("a frame, by a word", 1602, 1604, 0);
        startRefused("such a one again", 1602, 1606, 0);
        startRefused("none, by a word", 1602, 0, 0);
        startRefused("a link's word in a page of none", 3074, 0, 0);
        startRefused("no page for 32 + g", 7, 0, 1);
        startRefused("no page for G", 7, 0, 2);
        startRefused("no page for C", 7, 0, 3);
        startRefused("a protected list", 7, 0, 4);
        startRefused("a protected frame", 7, 0, 5);
        startRefused("no free frame", 7, 0, 6);
        startRefused("no page for the frame", 7, 0, 7);
    }

    private static void startRefused(String what, int link, int word, int obstacle) {
        Machine x = inEachState().x;
        x.poke(1600, word);
        int[] gone = {NONE, 0, 2, 3, NONE, NONE, NONE, 4};
        if (gone[obstacle] != NONE) {
            x.map(gone[obstacle], NONE);
        }
        x.protect(0, obstacle == 4);
        x.protect(4, obstacle == 5);
        if (obstacle == 6) {
            x.poke(16, 0);
        }
        String before = x.pictureButNotes();
        CHECK.illegalState("start by " + what, () -> x.start(link, 7));
        CHECK.same("start by " + what + " changes nothing", x.pictureButNotes(), before);
    }

    /** "(nothing is changed but what is noted of pages)": that of what was read and written until then. */
    private static void startNotesWhatItRead() {
        Bench bench = inEachState();
        bench.x.protect(4, true);
        CHECK.illegalState("a protected frame", () -> bench.x.start(7, 0));
        int[] due = {3, 0, 1, 1, 1, 0, 0, 0, 0, 0, 0, 0};
        for (int real = 0; real < 12; real++) {
            CHECK.due("noted of " + real, bench.x.noted(real), due[real]);
        }
    }

    /** "A process begins as by instruction 31": its priority modulo 8. */
    private static void startPriorityModulo8() {
        int[][] cases = {
            {0, 0}, {7, 7}, {8, 0}, {15, 7}, {-1, 7}, {-8, 0}, {-9, 7}, {65536, 0}, {Integer.MAX_VALUE, 7},
            {Integer.MIN_VALUE, 0}
        };
        for (int[] each : cases) {
            Machine x = inEachState().x;
            CHECK.due("start(7, " + each[0] + ")", x.start(7, each[0]), 4);
            CHECK.due("its priority", x.process(4, 1), each[1]);
            CHECK.due("READY", x.process(4, 0), READY);
            CHECK.due("behind the other", x.process(4, 7), 1);
        }
    }

    /** Links beyond a word's bits are the words that they end in. */
    private static void startLinkOfOtherBits() {
        int[] links = {7 + 512, 7 + 65024, 7 + 65536, 7 - 65536, 7 + (1 << 30)};
        for (int link : links) {
            Bench bench = inEachState();
            CHECK.due("start(" + link + ", 0)", bench.x.start(link, 0), 4);
            CHECK.due("procedure 3 of global frame 0", bench.next(4), bench.x.peek(Bench.CODE + 3) + 1);
        }
    }

    /** run: "IllegalArgumentException: n is not 0 .. 500". */
    private static void runRefused() {
        Machine x = inEachState().x;
        int[] outside = {Integer.MIN_VALUE, -1, 501, Integer.MAX_VALUE};
        for (int n : outside) {
            CHECK.refused("run(" + n + ")", ARGUMENT, x, () -> x.run(n));
        }
    }

    /** "At most n instructions, as long as one is READY: how many (those that FAULT, or block, count)." */
    private static void runAccepted() {
        Machine x = inEachState().x;
        String before = x.picture();
        CHECK.due("run(0)", x.run(0), 0);
        CHECK.same("nothing is done", x.picture(), before);
        CHECK.due("run(1)", x.run(1), 1);
        CHECK.due("run(500)", x.run(500), 500);
        x.kill(3);
        CHECK.due("none is READY", x.run(500), 0);
        CHECK.due("one that FAULTs", Bench.at(Bench.words()).x.run(500), 1);
        Bench blocks = Bench.at(Bench.words(Bench.CODE), 40);
        CHECK.due("one that blocks", blocks.x.run(500), 1);
        CHECK.due("none after it", blocks.x.run(500), 0);
        Bench ends = Bench.at(Bench.words(), 0, 27);
        CHECK.due("one that ends", ends.x.run(500), 2);
        Bench exact = Bench.at(Bench.words(), 0, 0, 0);
        CHECK.due("as many as there are", exact.x.run(3), 3);
        CHECK.due("still READY", exact.x.process(0, 0), READY);
    }

    /** resume: "IndexOutOfBoundsException: no such process", "IllegalStateException: it is not". */
    private static void resumeRefused() {
        Machine x = inEachState().x;
        for (int p : OUTSIDE_PROCESSES) {
            CHECK.refused("resume(" + p + ")", OUTSIDE, x, () -> x.resume(p));
        }
        for (int p = 1; p < 6; p++) {
            int each = p;
            CHECK.refused("resume(" + p + ") of " + x.process(p, 0), STATE, x, () -> x.resume(each));
        }
        x.resume(0);
        CHECK.refused("resume(0), twice", STATE, x, () -> x.resume(0));
    }

    /** "A process that is STOPPED is READY again, at the same instruction." */
    private static void resumeAtTheSameInstruction() {
        Bench bench = inEachState();
        int next = bench.next(0);
        int frame = bench.x.process(0, 2);
        bench.x.resume(0);
        int[] due = {READY, 1, frame, 1, NONE, 0, 0, 1};
        for (int what = 0; what < 8; what++) {
            CHECK.due("process(0, " + what + ")", bench.x.process(0, what), due[what]);
        }
        CHECK.due("its next byte", bench.next(0), next);
        CHECK.due("its stack", bench.top(), 9);
        Bench last = Bench.at(Bench.words());
        last.x.run(1);
        last.x.resume(0);
        CHECK.due("alone again", last.x.running(), 0);
        CHECK.due("FAULTs again", last.x.run(500), 1);
    }

    /** kill: "IndexOutOfBoundsException: no such process", "IllegalStateException: it is FREE". */
    private static void killRefused() {
        Machine x = inEachState().x;
        for (int p : OUTSIDE_PROCESSES) {
            CHECK.refused("kill(" + p + ")", OUTSIDE, x, () -> x.kill(p));
        }
        CHECK.refused("kill(4)", STATE, x, () -> x.kill(4));
        CHECK.refused("kill(5)", STATE, x, () -> x.kill(5));
        x.kill(0);
        CHECK.refused("kill(0), twice", STATE, x, () -> x.kill(0));
    }

    /** "A process is FREE (its frames stay).": whatever it was. */
    private static void killAccepted() {
        int[] due = {FREE, 0, 0, 0, NONE, 0, 0, NONE};
        for (int p = 0; p < 4; p++) {
            Machine x = inEachState().x;
            String before = x.memoryPicture();
            x.kill(p);
            for (int what = 0; what < 8; what++) {
                CHECK.due("killed: process(" + p + ", " + what + ")", x.process(p, what), due[what]);
            }
            CHECK.due("killed: its stack", x.stack(p, 0), NONE);
            CHECK.same("its frames stay", x.memoryPicture(), before);
            CHECK.due("the least FREE one now", x.start(7, 2), p);
            CHECK.due("with an empty stack", x.process(p, 3), 0);
        }
        Machine x = inEachState().x;
        x.kill(2);
        CHECK.due("a killed one WAITS no more", x.interrupt(CONDITION), NONE);
        CHECK.due("nor has it a TIMEOUT", x.tick(1000), 0);
    }

    /** interrupt: "IndexOutOfBoundsException: no such address". */
    private static void interruptRefused() {
        Machine x = inEachState().x;
        for (int condition : OUTSIDE_ADDRESSES) {
            CHECK.refused("interrupt(" + condition + ")", OUTSIDE, x, () -> x.interrupt(condition));
        }
        CHECK.refused("interrupt(4096 + where one WAITS)", OUTSIDE, x, () -> x.interrupt(4096 + CONDITION));
    }

    /** "if nobody WAITS there, the word at c becomes odd, if it is not (its page USED and CHANGED then". */
    private static void interruptOfNobody() {
        int[][] cases = {{0, 1}, {2, 3}, {256, 257}, {32768, 32769}, {65534, 65535}};
        int[] conditions = {0, 255, 256, 3071};
        for (int condition : conditions) {
            for (int[] each : cases) {
                Machine x = new Machine();
                x.poke(condition, each[0]);
                CHECK.due("interrupt(" + condition + ") of " + each[0], x.interrupt(condition), NONE);
                CHECK.due("the word", x.peek(condition), each[1]);
                CHECK.due("USED and CHANGED", x.noted(condition / 256), 3);
            }
        }
        Machine last = new Machine();
        last.map(15, 11);
        last.interrupt(4095);
        CHECK.due("the last word", last.peek(4095), 1);
        CHECK.due("its real page", last.noted(11), 3);
        Machine blocked = inEachState().x;
        blocked.poke(MONITOR, 2);
        CHECK.due("one that is BLOCKED does not WAIT", blocked.interrupt(MONITOR), NONE);
        CHECK.due("it stays so", blocked.process(1, 0), BLOCKED);
        CHECK.due("the word", blocked.peek(MONITOR), 3);
    }

    /** "(nothing happens, and nothing is noted, if it is odd, or its page none or PROTECTED)". */
    private static void interruptThatDoesNothing() {
        int[] odd = {1, 3, 255, 32769, 65535};
        for (int word : odd) {
            Machine x = new Machine();
            x.poke(300, word);
            String before = x.picture();
            CHECK.due("an odd word", x.interrupt(300), NONE);
            CHECK.same("an odd word stays", x.picture(), before);
        }
        Machine x = new Machine();
        x.protect(1, true);
        String before = x.picture();
        CHECK.due("a protected page", x.interrupt(300), NONE);
        CHECK.due("a page of none", x.interrupt(3072), NONE);
        CHECK.due("the last page of none", x.interrupt(4095), NONE);
        CHECK.same("nothing happens", x.picture(), before);
    }

    /** "The number of the process that is READY, or NONE.": one, as NOTIFY, whatever the word or its page. */
    private static void interruptOfTheFirst() {
        Machine x = inEachState().x;
        x.start(5, 3);
        x.start(5, 7);
        x.kill(3);
        x.run(500);
        x.poke(CONDITION, 6);
        x.protect(CONDITION / 256, true);
        String before = x.memoryPicture();
        x.noted(CONDITION / 256);
        CHECK.due("the highest priority", x.interrupt(CONDITION), 5);
        x.map(CONDITION / 256, NONE);
        CHECK.due("the first that was", x.interrupt(CONDITION), 2);
        CHECK.due("the other", x.interrupt(CONDITION), 4);
        x.map(CONDITION / 256, CONDITION / 256);
        CHECK.due("nobody", x.interrupt(CONDITION), NONE);
        CHECK.same("the word stays", x.memoryPicture(), before);
        CHECK.due("nothing is noted", x.noted(CONDITION / 256), 0);
        int[][] places = {{5, 0}, {2, 1}, {4, 2}};
        for (int[] each : places) {
            CHECK.due("place of " + each[0], x.process(each[0], 7), each[1]);
            CHECK.due("no TIMEOUT", x.process(each[0], 5), 0);
            CHECK.due("nowhere", x.process(each[0], 4), NONE);
        }
    }

    /** tick: "IllegalArgumentException: n is not 0 .. 100000". */
    private static void tickRefused() {
        Machine x = inEachState().x;
        int[] outside = {Integer.MIN_VALUE, -1, 100001, Integer.MAX_VALUE};
        for (int n : outside) {
            CHECK.refused("tick(" + n + ")", ARGUMENT, x, () -> x.tick(n));
        }
    }

    /** "each TIMEOUT above 0 of those WAITING becomes one less; one that comes to 0 makes its process READY". */
    private static void tickAccepted() {
        Machine x = inEachState().x;
        String before = x.picture();
        CHECK.due("tick(0)", x.tick(0), 0);
        CHECK.same("nothing happens", x.picture(), before);
        CHECK.due("tick(49)", x.tick(49), 0);
        CHECK.due("one is left", x.process(2, 5), 1);
        CHECK.due("WAITING", x.process(2, 0), WAITING);
        CHECK.due("tick(1)", x.tick(1), 1);
        CHECK.due("READY", x.process(2, 0), READY);
        CHECK.due("nowhere", x.process(2, 4), NONE);
        CHECK.due("no TIMEOUT", x.process(2, 5), 0);
        CHECK.due("no more", x.tick(100000), 0);
        Machine most = inEachState().x;
        CHECK.due("tick(100000)", most.tick(100000), 1);
        CHECK.due("the others stay", most.process(1, 0) * 10 + most.process(0, 0), BLOCKED * 10 + STOPPED);
        Machine more = inEachState().x;
        CHECK.due("tick(51)", more.tick(51), 1);
    }

    /** Processes 0 to 5 that WAIT so long, those of higher numbers with higher priorities and first. */
    private static Machine waiting(int... timeouts) {
        Bench bench = new Bench().frames(0, 8);
        for (int p = 0; p < timeouts.length; p++) {
            bench.procedure(p, 0, 2, CONDITION >> 8, 1, 2, CONDITION >> 8, 0, 1, timeouts[p], 42);
            bench.x.start(1 + 2 * p, p);
        }
        bench.x.run(500);
        CHECK.due("all WAIT", bench.x.running(), NONE);
        return bench.x;
    }

    private static void row(String text, Machine x, int what, int... due) {
        for (int p = 0; p < due.length; p++) {
            CHECK.due(text + " of " + p, x.process(p, what), due[p]);
        }
    }

    /** "(of several in one tick those of lower numbers first): how many became so". */
    private static void ticksTogether() {
        Machine x = waiting(3, 2, 3, 0, 2, 3);
        CHECK.due("tick(4)", x.tick(4), 5);
        row("place", x, 7, 2, 0, 3, NONE, 1, 4);
        Machine one = waiting(1, 1, 1, 1, 1, 1);
        CHECK.due("six in one tick", one.tick(1), 6);
        row("place", one, 7, 0, 1, 2, 3, 4, 5);
    }

    /** "n ticks: each TIMEOUT above 0 of those WAITING becomes one less": each by each tick, not only by the first. */
    private static void ticksApart() {
        Machine six = waiting(6, 5, 4, 3, 2, 1);
        CHECK.due("six in seven ticks", six.tick(7), 6);
        row("place", six, 7, 5, 4, 3, 2, 1, 0);
        Machine some = waiting(9, 1, 5, 4, 0, 3);
        CHECK.due("three in four ticks", some.tick(4), 3);
        row("state", some, 0, WAITING, READY, WAITING, READY, WAITING, READY);
        row("TIMEOUT", some, 5, 5, 0, 1, 0, 0, 0);
        row("place", some, 7, NONE, 0, NONE, 2, NONE, 1);
        Machine far = waiting(255, 254, 255, 1, 2, 253);
        CHECK.due("all in the most ticks", far.tick(100000), 6);
        row("place", far, 7, 4, 3, 5, 0, 1, 2);
    }

    /** What is only asked for stays as it is, and is not noted. */
    private static void askingChangesNothing() {
        Machine x = inEachState().x;
        String before = x.picture();
        for (int i = 0; i < 12; i++) {
            x.peek(i * 256 + 16);
            x.page(i, i % 2);
            x.free(i % 8);
            x.stack(i % 6, i / 6);
            x.process(i % 6, i % 8);
            x.running();
        }
        CHECK.same("all is as before", x.picture(), before);
    }

    /** "The process that RUNS; NONE without." */
    private static void runningNone() {
        Machine x = inEachState().x;
        CHECK.due("the one that is READY", x.running(), 3);
        x.kill(3);
        CHECK.due("STOPPED, BLOCKED and WAITING ones do not run", x.running(), NONE);
        CHECK.due("nor does run()", x.run(500), 0);
    }

    /** process: "NONE for another what, or process". */
    private static void processOutside() {
        Machine x = inEachState().x;
        int[] whats = {Integer.MIN_VALUE, -1, 8, Integer.MAX_VALUE};
        for (int p = 0; p < 6; p++) {
            for (int what : whats) {
                CHECK.due("process(" + p + ", " + what + ")", x.process(p, what), NONE);
            }
        }
        for (int p : OUTSIDE_PROCESSES) {
            for (int what = -1; what < 9; what++) {
                CHECK.due("process(" + p + ", " + what + ")", x.process(p, what), NONE);
            }
        }
    }

    /** "(4; NONE else), (5; 0 else), (6; 0 else), (7; NONE else)", "1 to 3 are 0 for one that is FREE". */
    private static void processInEachState() {
        Machine x = inEachState().x;
        int[][] due = {
            {STOPPED, 1, x.process(0, 2), 1, NONE, 0, 9, NONE},
            {BLOCKED, 2, x.process(1, 2), 2, MONITOR, 0, 0, NONE},
            {WAITING, 3, x.process(2, 2), 1, CONDITION, 50, 0, NONE},
            {READY, 4, x.process(3, 2), 1, NONE, 0, 0, 0},
            {FREE, 0, 0, 0, NONE, 0, 0, NONE},
            {FREE, 0, 0, 0, NONE, 0, 0, NONE}
        };
        for (int p = 0; p < 6; p++) {
            for (int what = 0; what < 8; what++) {
                CHECK.due("process(" + p + ", " + what + ")", x.process(p, what), due[p][what]);
            }
        }
    }

    /** "Word k of a process' stack, the top one 0; NONE if there is none such." */
    private static void stackOutside() {
        Machine x = inEachState().x;
        CHECK.due("the top one", x.stack(1, 0), MONITOR);
        CHECK.due("the last one", x.stack(1, 1), 9);
        int[] ks = {Integer.MIN_VALUE, -1, 2, 7, 8, Integer.MAX_VALUE};
        for (int k : ks) {
            CHECK.due("stack(1, " + k + ")", x.stack(1, k), NONE);
        }
        for (int p : OUTSIDE_PROCESSES) {
            CHECK.due("stack(" + p + ", 0)", x.stack(p, 0), NONE);
        }
        CHECK.due("a FREE one's", x.stack(5, 0), NONE);
        x.kill(1);
        CHECK.due("a killed one's", x.stack(1, 0), NONE);
        Machine full = Bench.at(Bench.words(1, 2, 3, 4, 5, 6, 7, 8)).x;
        CHECK.due("the top one of 8", full.stack(0, 0), 8);
        CHECK.due("the last one of 8", full.stack(0, 7), 1);
        CHECK.due("the ninth", full.stack(0, 8), NONE);
    }

    /** page: "NONE for another what, or page". */
    private static void pageOutside() {
        Machine x = new Machine();
        int[] outside = {Integer.MIN_VALUE, -1, 16, Integer.MAX_VALUE};
        for (int page : outside) {
            CHECK.due("page(" + page + ", 0)", x.page(page, 0), NONE);
            CHECK.due("page(" + page + ", 1)", x.page(page, 1), NONE);
        }
        int[] whats = {Integer.MIN_VALUE, -1, 2, Integer.MAX_VALUE};
        for (int what : whats) {
            CHECK.due("page(0, " + what + ")", x.page(0, what), NONE);
            CHECK.due("page(11, " + what + ")", x.page(11, what), NONE);
        }
        x.protect(12, true);
        CHECK.due("a page of none", x.page(12, 0), NONE);
        CHECK.due("that is protected", x.page(12, 1), 1);
    }

    /** free: "NONE for another class". */
    private static void freeOutside() {
        Machine x = new Bench().frames(0, 2).frames(7, 3).x;
        int[] outside = {Integer.MIN_VALUE, -1, 8, 16, Integer.MAX_VALUE};
        for (int k : outside) {
            CHECK.due("free(" + k + ")", x.free(k), NONE);
        }
        int[] due = {2, 0, 0, 0, 0, 0, 0, 3};
        for (int k = 0; k < 8; k++) {
            CHECK.due("free(" + k + ")", x.free(k), due[k]);
        }
        // the words ahead of and behind the lists are no lists
        x.poke(15, 1600);
        x.poke(24, 1600);
        CHECK.due("free(0)", x.free(0), 2);
        CHECK.due("free(7)", x.free(7), 3);
    }

    /** "How many free frames of a class follow one another (at most 600". */
    private static void freeInACircle() {
        Machine x = new Machine();
        x.poke(16, 1600);
        CHECK.due("one", x.free(0), 1);
        x.poke(1600, 1600);
        CHECK.due("a circle of one", x.free(0), 600);
        x.poke(1600, 1700);
        x.poke(1700, 1800);
        CHECK.due("three", x.free(0), 3);
        x.poke(1800, 1700);
        CHECK.due("a circle of two, behind one", x.free(0), 600);
        CHECK.due("another class", x.free(1), 0);
    }

    /** "words as peek() has them, 0 where a page has none": and no use, and of addresses modulo 4096. */
    private static void freeWithoutPages() {
        Machine x = new Machine();
        x.poke(16, 1600);
        x.poke(1600, 3072);
        CHECK.due("the second has no page", x.free(0), 2);
        x.poke(1600, 4096 + 1700);
        x.poke(1700, 65535);
        CHECK.due("the second is at 1700, the third has no page", x.free(0), 3);
        x.map(15, 11);
        x.poke(4095, 1800);
        CHECK.due("now it has", x.free(0), 4);
        x.protect(6, true);
        CHECK.due("a protected page", x.free(0), 4);
        CHECK.due("nothing is noted", x.noted(0) + x.noted(6) + x.noted(11), 0);
        x.map(6, NONE);
        CHECK.due("the first has no page", x.free(0), 1);
        x.map(0, NONE);
        CHECK.due("the lists have no page", x.free(0), 0);
    }
}
