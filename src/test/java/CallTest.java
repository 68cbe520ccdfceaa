/** Calls, returns and links: instructions 25 to 28 and 31, and promise 7. */
public final class CallTest {
    private static final int NONE = FrameProcessor.NONE;
    private static final Check CHECK = new Check("CallTest");

    public static void main(String[] args) {
        callOwn();
        callAndReturn();
        callLinked();
        callPopped();
        callOfFrame();
        badLinks();
        returnToProcedure();
        returnWithBadLink();
        lastReturn();
        fork();
        forkFaults();
        starting();
        startFaults();
        CHECK.end();
    }

    private static void callOwn() {
        Bench bench = new Bench().frames(0, 2).frames(2, 1);
        Machine x = bench.x;
        int first = x.peek(16);
        int callee = x.peek(18);
        int own = bench.procedure(0, 0, 1, 7, 25, 16 + 3, Bench.HALT);
        int begin = bench.procedure(3, 8 + 2, Bench.HALT);
        x.start(1, 0);
        CHECK.due("the frame of the start", x.process(0, 2), first);
        x.run(2);
        CHECK.due("the frame is the callee's, of the class that the byte says", x.process(0, 2), callee);
        CHECK.due("word 0: the caller's frame", x.peek(callee), first);
        CHECK.due("word 1: g", x.peek(callee + 1), 0);
        CHECK.due("word 2: where its instructions begin", x.peek(callee + 2), begin);
        CHECK.due("word 3: its class", x.peek(callee + 3), 2);
        CHECK.due("the caller's word 2", x.peek(first + 2), own + 4);
        CHECK.due("the stack goes along", bench.top(), 7);
        for (int k = 0; k < 8; k++) {
            callOfOtherGlobal(k, k);
            callOfOtherGlobal(8 + k, k);
        }
    }

    /** Procedure e of global frame g calls its next one, of class k. */
    private static void callOfOtherGlobal(int g, int k) {
        Bench bench = new Bench().frames(0, 1).frames(k, 1);
        Machine x = bench.x;
        int callee = x.peek(16 + k);
        x.poke(16, 1800);
        x.poke(1800, k == 0 ? callee : 0);
        x.poke(32 + g, Bench.GLOBAL);
        bench.procedure(g, 0, 25, g + 1);
        int begin = bench.procedure((g + 1) % 16, k, Bench.HALT);
        x.start(1 + 2 * g + 32 * g, 0);
        x.run(1);
        CHECK.due("the frame is of class " + k, x.process(0, 2), callee);
        CHECK.due("of global frame " + g, x.peek(callee + 1), g);
        CHECK.due("at its beginning", x.peek(callee + 2), begin);
    }

    private static void callAndReturn() {
        Bench bench = new Bench().frames(0, 2);
        Machine x = bench.x;
        int first = x.peek(16);
        int callee = x.peek(first);
        bench.procedure(0, 0, 1, 7, 25, 3, 9, Bench.HALT);
        int begin = bench.procedure(3, 0, 1, 5, 27);
        x.start(1, 0);
        CHECK.due("run", x.run(500), 6);
        CHECK.due("FAULT", bench.fault(0), 9);
        CHECK.due("the sum", bench.top(), 12);
        CHECK.due("back in the frame", x.process(0, 2), first);
        CHECK.due("the callee's is free", x.peek(16), callee);
        CHECK.due("its word 2 stays", x.peek(callee + 2), begin + 2);
    }

    private static void callLinked() {
        Bench bench = new Bench().frames(0, 3);
        Machine x = bench.x;
        // global frame 7, at 600 with code at 700; procedure 15 of it
        x.poke(32 + 7, 600);
        x.poke(600, 700);
        x.poke(715, 100);
        x.poke(750, 0x0001);
        x.poke(751, 0x2AFF);
        x.poke(Bench.GLOBAL - 1 - 2, 1 + 2 * 15 + 32 * 7 + 512);
        bench.procedure(0, 0, 26, 2, Bench.HALT);
        x.start(1, 0);
        bench.clearNotes();
        x.protect(4, true);
        x.run(1);
        CHECK.due("the own word 2 is written first", bench.fault(0), 2);
        CHECK.due("behind the link, which was read", x.noted(1), 1);
        CHECK.due("ahead of the heap", x.noted(0), 1);
        x.protect(4, false);
        x.map(1, NONE);
        x.resume(0);
        bench.clearNotes();
        x.run(1);
        CHECK.due("no page for the link", bench.fault(0), 1);
        CHECK.due("which is read ahead of that write", x.noted(4), 1);
        x.map(1, 1);
        x.resume(0);
        x.run(1);
        int callee = x.process(0, 2);
        CHECK.due("word 1: g", x.peek(callee + 1), 7);
        CHECK.due("word 2", x.peek(callee + 2), 101);
        x.run(1);
        CHECK.due("its instruction", bench.top(), 42);
        x.poke(callee + 1, 16 * 5 + 7);
        x.poke(751, 0x2A01);
        x.poke(752, 0x2B00);
        x.poke(callee + 2, 103);
        x.run(1);
        CHECK.due("its global frame modulo 16", bench.top(), 43);
    }

    private static void callPopped() {
        Bench bench = new Bench().frames(0, 3);
        Machine x = bench.x;
        int first = x.peek(16);
        int callee = x.peek(first);
        int own = bench.procedure(0, 0, 1, 7, 2, 2, 90, 28, Bench.HALT);
        int begin = bench.procedure(4, 0, Bench.HALT);
        x.poke(600, 9);
        x.start(1, 0);
        x.run(3);
        CHECK.due("by the word at link - 2", x.process(0, 2), callee);
        CHECK.due("its word 2", x.peek(callee + 2), begin);
        CHECK.due("its word 0", x.peek(callee), first);
        CHECK.due("the caller's word 2", x.peek(first + 2), own + 6);
        CHECK.due("the link is popped", x.process(0, 3), 1);
    }

    private static void callOfFrame() {
        Bench bench = new Bench().frames(0, 3);
        Machine x = bench.x;
        int own = bench.procedure(0, 0, 2, 6, 64, 28, Bench.HALT);
        int there = bench.procedure(1, 0, 1, 8, Bench.HALT);
        int first = x.peek(16);
        x.poke(1600, 4321);
        x.poke(1602, there);
        x.poke(1603, 5);
        x.start(1, 0);
        x.run(2);
        CHECK.due("the frame", x.process(0, 2), 1600);
        CHECK.due("its word 0 stays", x.peek(1600), 4321);
        CHECK.due("the caller's word 2", x.peek(first + 2), own + 4);
        x.run(1);
        CHECK.due("goes on there", bench.top(), 8);
        CHECK.due("no frame was taken", x.free(0), 2);

        Bench high = new Bench().frames(0, 1);
        high.procedure(0, 0, 2, 22, 64, 28, Bench.HALT);
        high.x.start(1, 0);
        high.x.run(2);
        CHECK.due("a frame beyond 4095", high.x.process(0, 2), 4096 + 1600);
    }

    private static void badLinks() {
        badLink("link 0", 0, 0, 4);
        badLink("the word is such a one again", 602, 606, 4);
        badLink("the word is 0", 602, 0, 4);
        badLink("no page for the word", 3074, 0, 1);
        Bench bench = new Bench().frames(0, 2);
        Machine x = bench.x;
        bench.procedure(0, 0, 26, 0, Bench.HALT);
        x.start(1, 0);
        x.run(1);
        CHECK.due("26 with link 0", bench.fault(0), 4);
        CHECK.due("word 2 was written ahead of that", x.noted(4), 3);
        x.poke(32, 0);
        x.poke(0, Bench.CODE);
        x.resume(0);
        x.run(1);
        CHECK.due("26 with its link at -1, modulo 4096", bench.fault(0), 1);
    }

    private static void badLink(String what, int link, int word, int fault) {
        Bench bench = new Bench().frames(0, 2);
        Machine x = bench.x;
        x.poke(600, word);
        int own = bench.procedure(0, 0, 1, 7, 2, link >> 8, link & 255, 28, Bench.HALT);
        x.start(1, 0);
        x.run(2);
        bench.clearNotes();
        x.run(1);
        CHECK.due(what + ": FAULT", bench.fault(0), fault);
        CHECK.due(what + ": the stack is as before", bench.top(), link);
        CHECK.due(what + ": the instruction is as before", bench.next(0), own + 5);
        CHECK.due(what + ": word 2 was written ahead of that", x.noted(4), 3);
    }

    private static void returnToProcedure() {
        Bench bench = new Bench().frames(0, 1);
        Machine x = bench.x;
        int frame = x.peek(16);
        bench.procedure(0, 0, 1, 3, 27);
        int begin = bench.procedure(1, 0, Bench.HALT);
        x.start(1, 5);
        x.poke(frame, 3);
        x.run(2);
        CHECK.due("the same frame, given back and taken anew", x.process(0, 2), frame);
        CHECK.due("CALLED from none", x.peek(frame), 0);
        CHECK.due("at the other procedure", x.peek(frame + 2), begin);
        CHECK.due("with its stack", bench.top(), 3);
        CHECK.due("with its priority", x.process(0, 1), 5);
    }

    private static void returnWithBadLink() {
        Bench bench = new Bench().frames(0, 1);
        Machine x = bench.x;
        int frame = x.peek(16);
        int begin = bench.procedure(0, 0, 27);
        x.start(1, 5);
        x.poke(frame, 602);
        x.poke(600, 2);
        bench.clearNotes();
        x.run(1);
        CHECK.due("FAULT", bench.fault(0), 4);
        CHECK.due("its word 0 is as before", x.peek(frame), 602);
        CHECK.due("no free frame", x.free(0), 0);
        CHECK.due("at the same instruction", x.peek(frame + 2), begin);
        CHECK.due("but the heap was written", x.noted(0), 3);
    }

    private static void lastReturn() {
        Bench bench = new Bench().frames(0, 2);
        Machine x = bench.x;
        int frame = x.peek(16);
        int begin = bench.procedure(0, 0, 1, 3, 27);
        x.start(1, 5);
        CHECK.due("run", x.run(500), 2);
        int[] free = {0, 0, 0, 0, NONE, 0, 0, NONE};
        for (int what = 0; what < 8; what++) {
            CHECK.due("nothing is left of it: " + what, x.process(0, what), free[what]);
        }
        CHECK.due("nor of its stack", x.stack(0, 0), NONE);
        CHECK.due("its frame is free", x.peek(16), frame);
        CHECK.due("its word 2 stays", x.peek(frame + 2), begin + 2);
        x.start(1, 1);
        CHECK.due("an empty stack", x.process(0, 3), 0);
        x.protect(0, true);
        x.run(2);
        CHECK.due("a frame that cannot go back", bench.fault(0), 2);
    }

    private static void fork() {
        Bench bench = new Bench().frames(0, 3);
        Machine x = bench.x;
        int own = bench.procedure(0, 0, 1, 9, 1, 8 + 6, 1, 3, 31, Bench.HALT);
        int begin = bench.procedure(1, 0, Bench.HALT);
        x.start(1, 2);
        int child = x.peek(16);
        x.run(3);
        CHECK.due("not yet", x.process(1, 0), 0);
        CHECK.due("run", x.run(1), 1);
        CHECK.due("READY", x.process(1, 0), 1);
        CHECK.due("its priority modulo 8", x.process(1, 1), 6);
        CHECK.due("its frame", x.process(1, 2), child);
        CHECK.due("an empty stack", x.process(1, 3), 0);
        CHECK.due("its place", x.process(1, 7), 1);
        CHECK.due("it runs", x.running(), 1);
        CHECK.due("from none", x.peek(child), 0);
        CHECK.due("where it begins", x.peek(child + 2), begin);
        CHECK.due("both are popped", x.process(0, 3), 1);
        CHECK.due("the other goes on", bench.next(0), own + 7);
        CHECK.due("and keeps its place", x.process(0, 7), 0);
    }

    private static void forkFaults() {
        forkFault("link 0", 0, 0, 0, 4);
        forkFault("a frame", 1600, 0, 0, 8);
        forkFault("a frame in the end", 602, 1600, 0, 8);
        forkFault("such a one again", 602, 602, 0, 4);
        forkFault("no page for the link", 3074, 0, 0, 1);
        forkFault("none is FREE, ahead of all else", 3074, 0, 5, 8);
        forkFault("none is FREE, ahead of link 0", 0, 0, 5, 8);
        Bench bench = Bench.ran(1, 1, 31);
        CHECK.due("behind the pops", bench.fault(0), 5);
        Bench none = new Bench().frames(0, 1);
        none.procedure(0, 0, 1, 1, 1, 1, 31);
        none.x.start(1, 0);
        none.x.run(3);
        CHECK.due("no frame for it", none.fault(0), 3);
    }

    private static void forkFault(String what, int link, int word, int others, int fault) {
        Bench bench = new Bench().frames(0, 8);
        Machine x = bench.x;
        x.poke(600, word);
        bench.procedure(0, 0, 1, 2, 2, link >> 8, link & 255, 31, Bench.HALT);
        x.start(1, 7);
        for (int i = 0; i < others; i++) {
            x.start(1, 0);
        }
        x.run(3);
        CHECK.due("31, " + what + ": FAULT", bench.fault(0), fault);
        CHECK.due("31, " + what + ": the stack", x.process(0, 3), 2);
        CHECK.due("31, " + what + ": the next one", x.process(others + 1, 0), others == 5 ? NONE : 0);
    }

    private static void starting() {
        Bench bench = new Bench().frames(0, 8);
        Machine x = bench.x;
        int begin = bench.procedure(0, 0, Bench.HALT);
        for (int i = 0; i < 6; i++) {
            int frame = x.peek(16);
            CHECK.due("start " + i, x.start(1 + 512 * i, 8 * i - 3), i);
            CHECK.due("its priority", x.process(i, 1), 5);
            CHECK.due("its frame", x.process(i, 2), frame);
            CHECK.due("its word 0", x.peek(frame), 0);
            CHECK.due("its word 1", x.peek(frame + 1), 0);
            CHECK.due("its word 2", x.peek(frame + 2), begin);
            CHECK.due("its place", x.process(i, 7), i);
            CHECK.due("the first one runs", x.running(), 0);
        }
        bench.clearNotes();
        String before = x.picture();
        CHECK.illegalState("a seventh", () -> x.start(1, 0));
        CHECK.same("nothing is changed, nor read", x.picture(), before);
        x.kill(4);
        x.kill(2);
        x.poke(700, 1 + 65536);
        CHECK.due("the least FREE one, by a word", x.start(702, 1), 2);
        CHECK.due("a link modulo 65536", x.start(1 - 65536, 1), 4);
    }

    private static void startFaults() {
        startFault("link 0", 0, 0);
        startFault("a frame", 1600, 0);
        startFault("such a one again", 602, 606);
        startFault("a frame in the end", 602, 1600);
        startFault("none in the end", 602, 0);
        startFault("no page for the link", 3074, 0);
        startFault("no page for G", 33, 0);
        startFault("no page for C", 65, 0);
        Bench bench = new Bench().frames(0, 1);
        Machine x = bench.x;
        bench.procedure(0, 0, Bench.HALT);
        x.protect(4, true);
        String before = x.pictureButNotes();
        CHECK.illegalState("a protected frame", () -> x.start(1, 0));
        CHECK.same("nothing is changed", x.pictureButNotes(), before);
        CHECK.due("but noted: the list", x.noted(0), 3);
        CHECK.due("the global frame", x.noted(2), 1);
        CHECK.due("the code", x.noted(3), 1);
        CHECK.due("the frame, which was not written", x.noted(4), 1);
        x.protect(4, false);
        CHECK.due("then it can", x.start(1, 0), 0);
    }

    private static void startFault(String what, int link, int word) {
        Bench bench = new Bench().frames(0, 1);
        bench.procedure(0, 0, Bench.HALT);
        bench.x.poke(33, 3072);
        bench.x.poke(34, 520);
        bench.x.poke(520, 3072);
        bench.x.poke(600, word);
        String before = bench.x.pictureButNotes();
        CHECK.illegalState("start, " + what, () -> bench.x.start(link, 0));
        CHECK.same("start, " + what + ": nothing is changed", bench.x.pictureButNotes(), before);
    }
}
