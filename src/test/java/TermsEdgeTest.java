/** The boundary cases that the document's "Terms" name, ahead of its list of instructions: a test for each sentence. */
public final class TermsEdgeTest {
    private static final int NONE = FrameProcessor.NONE;
    private static final Check CHECK = new Check("TermsEdgeTest");

    public static void main(String[] args) {
        wordsOf16Bits();
        pagesOf256();
        pagesAtFirst();
        readModulo4096();
        writeModulo4096();
        frameModulo4096();
        globalFrameModulo4096();
        codeModulo4096();
        pageOfNone();
        pageProtected();
        peekAndPokeNoteNothing();
        lastFreeFrame();
        leastClassThatHasOne();
        classOfATakenFrame();
        noFreeFrame();
        globalFrames();
        halvesOfWords();
        procedures();
        beginModulo65536();
        classModulo8();
        globalFrameModulo16();
        frameClassModulo8();
        linkNone();
        linksOfFrames();
        linksOfProcedures();
        linksElsewhere();
        CHECK.end();
    }

    /** "WORDS have 16 bits (0 .. 65535)." */
    private static void wordsOf16Bits() {
        CHECK.leaves("65535 + 1", Bench.at(Bench.words(65535, 1), 9), 1, 0);
        CHECK.leaves("65535 + 65535", Bench.at(Bench.words(65535, 65535), 9), 1, 65534);
        CHECK.leaves("0 - 1", Bench.at(Bench.words(0, 1), 10), 1, 65535);
        CHECK.leaves("0 - 65535", Bench.at(Bench.words(0, 65535), 10), 1, 1);
        CHECK.leaves("256 * 256", Bench.at(Bench.words(256, 256), 11), 1, 0);
        CHECK.leaves("65535 * 65535", Bench.at(Bench.words(65535, 65535), 11), 1, 1);
        CHECK.leaves("46341 * 46341, beyond 31 bits", Bench.at(Bench.words(46341, 46341), 11), 1, 4633);
        Bench bench = Bench.at(Bench.words(65535, 1600), 8, 0);
        bench.x.run(1);
        CHECK.due("a word of memory", bench.x.peek(1600), 65535);
    }

    /** "MEMORY: addresses 0 .. 4095 in 16 PAGES of 256". */
    private static void pagesOf256() {
        for (int page = 0; page < 16; page++) {
            Machine x = new Machine();
            for (int other = 0; other < 16; other++) {
                x.map(other, other == page ? 11 : NONE);
            }
            int first = page * 256;
            x.poke(first, 1);
            x.poke(first + 255, 2);
            CHECK.due("its first word", x.peek(first), 1);
            CHECK.due("its last word", x.peek(first + 255), 2);
            if (page > 0) {
                CHECK.illegalState("the word ahead of page " + page, () -> x.peek(first - 1));
            }
            if (page < 15) {
                CHECK.illegalState("the word behind page " + page, () -> x.peek(first + 256));
            }
            x.map((page + 1) % 16, 11);
            CHECK.due("the same first word", x.peek((page + 1) % 16 * 256), 1);
            CHECK.due("the same last word", x.peek((page + 1) % 16 * 256 + 255), 2);
        }
    }

    /** "At first page k is mapped to k, 12 .. 15 to none." */
    private static void pagesAtFirst() {
        Machine x = new Machine();
        for (int page = 0; page < 16; page++) {
            int first = page * 256;
            CHECK.due("page " + page, x.page(page, 0), page < 12 ? page : NONE);
            if (page < 12) {
                CHECK.due("a word, 0 at first", x.peek(first), 0);
                CHECK.due("its last one", x.peek(first + 255), 0);
            } else {
                CHECK.illegalState("a word of none", () -> x.peek(first));
                CHECK.illegalState("its last one", () -> x.peek(first + 255));
            }
        }
    }

    /** "To READ or WRITE a word (its address modulo 4096)". */
    private static void readModulo4096() {
        int[][] cases = {{4095, 1, 0}, {4096, 0, 0}, {4096, 255, 255}, {65535, 1, 0}, {65535, 255, 254}, {8191, 2, 1}};
        for (int[] each : cases) {
            Bench bench = Bench.at(Bench.words(each[0]), 7, each[1]);
            bench.x.poke(each[2], 4711);
            CHECK.leaves("the word at " + each[0] + " + " + each[1], bench, 1, 4711);
        }
        Bench last = Bench.at(Bench.words(65535), 7, 0);
        last.x.map(15, 11);
        last.x.poke(4095, 4711);
        CHECK.leaves("the word at 65535", last, 1, 4711);
    }

    /** "To READ or WRITE a word (its address modulo 4096)", the latter. */
    private static void writeModulo4096() {
        int[][] cases = {{4095, 1, 0}, {4096, 0, 0}, {4096, 255, 255}, {65535, 1, 0}, {65535, 255, 254}, {8191, 2, 1}};
        for (int[] each : cases) {
            Bench bench = Bench.at(Bench.words(7, 4711, each[0]), 8, each[1]);
            CHECK.leaves("into the word at " + each[0] + " + " + each[1], bench, 1, 7);
            CHECK.due("which is " + each[2], bench.x.peek(each[2]), 4711);
        }
        Bench last = Bench.at(Bench.words(7, 4711, 65535), 8, 0);
        last.x.map(15, 11);
        CHECK.leaves("into the word at 65535", last, 1, 7);
        CHECK.due("which is 4095", last.x.peek(4095), 4711);
    }

    /** The same of a frame's words: those of a frame at 4092 go on at 0. */
    private static void frameModulo4096() {
        int[] frames = {4092, 8188, 65532};
        for (int frame : frames) {
            Bench bench = Bench.at(Bench.words(frame), 28);
            int there = bench.procedure(1, 0, 1, 9, 4, 0, 3, 1);
            bench.x.map(15, 11);
            bench.x.poke(4094, there);
            bench.x.poke(1, 77);
            bench.x.run(3);
            CHECK.due("local 0 of a frame at " + frame, bench.x.peek(0), 9);
            CHECK.due("its next byte", bench.x.peek(4094), there + 4);
            CHECK.leaves("its local 1", bench, 1, 77);
        }
    }

    /** The same of a global frame's words: those of one at 4095 go on at 0, and those below one at 0 at 4095. */
    private static void globalFrameModulo4096() {
        Bench bench = Bench.at(Bench.words(8), 6, 0, 5, 1);
        bench.x.map(15, 11);
        bench.x.poke(32, 65535);
        bench.x.poke(4095, Bench.CODE);
        bench.x.poke(1, 66);
        bench.x.run(1);
        CHECK.due("G + 1 of G 65535", bench.x.peek(0), 8);
        CHECK.leaves("G + 2 of G 65535", bench, 1, 66);

        Bench low = Bench.at(Bench.words(), 26, 0);
        low.x.map(15, 11);
        low.x.poke(32, 0);
        low.x.poke(0, Bench.CODE);
        low.x.poke(4095, 1600);
        low.x.run(1);
        CHECK.due("G - 1 of G 0", low.x.process(0, 2), 1600);
    }

    /** The same of the code's words: those of code at 4090 go on at 0. */
    private static void codeModulo4096() {
        Machine x = new Machine();
        x.map(15, 11);
        x.poke(32, 512);
        x.poke(512, 4090);
        x.poke(16, 1024);
        // procedure 15 begins where the word at 4105 says: at byte 64 of 4090, which is in the word at 4122
        x.poke(9, 64);
        x.poke(26, 0x0001);
        x.poke(27, 0x4D00);
        CHECK.due("start", x.start(31, 0), 0);
        CHECK.due("where it begins", x.peek(1026), 65);
        x.run(1);
        CHECK.due("what it pushes", x.stack(0, 0), 77);
    }

    /** "FAULT 1 if its page has none". */
    private static void pageOfNone() {
        CHECK.faults("read, in the first page of none", Bench.at(Bench.words(3072), 7, 0), 1);
        CHECK.faults("read, in the last one", Bench.at(Bench.words(4095), 7, 0), 1);
        CHECK.faults("written", Bench.at(Bench.words(1, 3072), 8, 0), 1);
        CHECK.leaves("the word ahead of them", Bench.at(Bench.words(3071), 7, 0), 1, 0);
        Bench gone = Bench.at(Bench.words(2048), 7, 0);
        gone.x.map(8, NONE);
        CHECK.faults("mapped to none", gone, 1);
        Bench both = Bench.at(Bench.words(1, 2048), 8, 0);
        both.x.map(8, NONE);
        both.x.protect(8, true);
        CHECK.faults("mapped to none, and protected", both, 1);
    }

    /** "2 if it is written and the page PROTECTED". */
    private static void pageProtected() {
        Bench written = Bench.at(Bench.words(1, 2303), 8, 0);
        written.x.protect(8, true);
        written.clearNotes();
        CHECK.faults("written", written, 2);
        CHECK.due("a write that is not done is not noted", written.x.noted(8), 0);
        Bench read = Bench.at(Bench.words(2303), 7, 0);
        read.x.protect(8, true);
        read.x.poke(2303, 5);
        CHECK.leaves("read", read, 1, 5);
        CHECK.due("noted", read.x.noted(8), 1);
        Bench behind = Bench.at(Bench.words(1, 2304), 8, 0);
        behind.x.protect(8, true);
        behind.x.run(1);
        CHECK.due("the word behind the page", behind.x.peek(2304), 1);
        Bench ahead = Bench.at(Bench.words(1, 2047), 8, 0);
        ahead.x.protect(8, true);
        ahead.x.run(1);
        CHECK.due("the word ahead of it", ahead.x.peek(2047), 1);
        Bench twice = Bench.at(Bench.words(1, 2304), 8, 0);
        twice.x.protect(8, true);
        twice.x.map(9, 8);
        twice.x.run(1);
        CHECK.due("through a page that is not, of the same real one", twice.x.peek(2048), 1);
    }

    /** "What is told by peek() and poke() is no use or change, and needs no page that is not protected." */
    private static void peekAndPokeNoteNothing() {
        Machine x = new Machine();
        for (int page = 0; page < 12; page++) {
            x.protect(page, true);
            x.poke(page * 256 + 255, page + 1);
            CHECK.due("poked, though protected", x.peek(page * 256 + 255), page + 1);
            CHECK.due("nothing is noted", x.noted(page), 0);
        }
    }

    /** "the first free FRAME of class k, 0 .. 7 (0: none), whose word 0 is the next free one". */
    private static void lastFreeFrame() {
        for (int k = 0; k < 8; k++) {
            Bench bench = new Bench().frames(k, 2);
            Machine x = bench.x;
            int second = x.peek(16 + k);
            int last = x.peek(second);
            bench.procedure(0, k, 29, k);
            CHECK.due("two are free", x.free(k), 2);
            x.start(1, 0);
            CHECK.due("the first is taken", x.process(0, 2), second);
            CHECK.due("one is free", x.free(k), 1);
            x.run(1);
            CHECK.due("the last one", x.stack(0, 0), last);
            CHECK.due("none is left", x.peek(16 + k), 0);
            CHECK.due("none is free", x.free(k), 0);
        }
    }

    /** "To TAKE one of class k: the first free one of the least class, k or above, that has one". */
    private static void leastClassThatHasOne() {
        for (int k = 0; k < 8; k++) {
            for (int from = 0; from < 8; from++) {
                Bench bench = Bench.at(Bench.words(), 29, k);
                Machine x = bench.x;
                for (int each = 0; each < 8; each++) {
                    x.poke(16 + each, each == from || each == 7 ? 1600 + 100 * each : 0);
                }
                CHECK.leaves(k + " of " + from + " and 7", bench, 1, 1600 + 100 * (from >= k ? from : 7));
                CHECK.due("it goes from its list", x.peek(16 + (from >= k ? from : 7)), 0);
                CHECK.due("no other does", x.free(from < k ? from : 7), from < k || from < 7 ? 1 : 0);
            }
        }
    }

    /** "and its word 3 becomes the class": that of the list where it was, for there it goes back to. */
    private static void classOfATakenFrame() {
        for (int k = 0; k < 8; k++) {
            Bench bench = Bench.at(Bench.words(), 29, 0, 30);
            Machine x = bench.x;
            x.poke(16, 0);
            x.poke(16 + k, 1600);
            x.poke(1603, 65535);
            x.run(1);
            CHECK.due("its class", x.peek(1603), k);
            x.run(1);
            CHECK.due("back in its list", x.free(k), 1);
        }
    }

    /** "FAULT 3 if none has." */
    private static void noFreeFrame() {
        for (int k = 0; k < 8; k++) {
            Bench bench = Bench.at(Bench.words(), 29, k);
            for (int each = 0; each < 8; each++) {
                bench.x.poke(16 + each, each < k ? 1600 : 0);
            }
            // the word behind the lists is no list
            bench.x.poke(24, 1600);
            CHECK.faults("of class " + k + ", where only lower ones have", bench, 3);
        }
    }

    /** "GLOBAL FRAMES 0 .. 15: the word at address 32 + g is its address G". */
    private static void globalFrames() {
        int[] edges = {0, 1, 14, 15};
        for (int g : edges) {
            Bench bench = new Bench().frames(0, 1);
            bench.x.poke(32, 0);
            bench.x.poke(32 + g, Bench.GLOBAL);
            bench.x.poke(Bench.GLOBAL + 1, 99);
            bench.procedure(0, 0, 5, 0);
            bench.x.start(1 + 32 * g, 0);
            CHECK.leaves("global frame " + g, bench, 1, 99);
        }
    }

    /** "byte b is the higher (b even) or lower half of the word at C + b / 2". */
    private static void halvesOfWords() {
        for (int first = 60; first < 64; first++) {
            Machine x = new Machine();
            x.poke(32, 512);
            x.poke(512, 768);
            x.poke(768, first);
            x.poke(16, 1024);
            int[] bytes = {0, 2, 171, 205};
            for (int i = 0; i < 4; i++) {
                int address = 768 + (first + i) / 2;
                x.poke(address, x.peek(address) | bytes[i] << ((first + i) % 2 == 0 ? 8 : 0));
            }
            x.start(1, 0);
            x.run(1);
            CHECK.due("a word behind byte " + first, x.stack(0, 0), 171 * 256 + 205);
        }
    }

    /** "The word at C + e, e 0 .. 15, is where procedure e begins". */
    private static void procedures() {
        int[] edges = {0, 1, 14, 15};
        for (int e : edges) {
            Bench bench = new Bench().frames(0, 1);
            for (int other = 0; other < 16; other++) {
                bench.x.poke(Bench.CODE + other, 3000);
            }
            int begin = bench.procedure(e, 0, Bench.HALT);
            bench.x.start(1 + 2 * e, 0);
            CHECK.due("procedure " + e, bench.next(0), begin);
        }
    }

    /** "in bytes (modulo 65536); that byte tells the class of its frames, then come its instructions". */
    private static void beginModulo65536() {
        Machine x = new Machine();
        x.map(15, 1);
        x.poke(32, 512);
        x.poke(512, 768);
        // procedure 1 begins at the last byte, in the word at 768 + 32767; its first instruction is byte 0
        x.poke(769, 65535);
        x.poke((768 + 32767) % 4096, 0x0003);
        x.poke(768, 0x0155);
        x.poke(19, 1024);
        CHECK.due("start", x.start(3, 0), 0);
        CHECK.due("a frame of its class", x.peek(1027), 3);
        CHECK.due("where its instructions begin", x.peek(1026), 0);
        x.run(1);
        CHECK.due("its first instruction", x.stack(0, 0), 0x55);
        CHECK.due("the byte behind it", x.peek(1026), 2);
    }

    /** "that byte tells the class of its frames (modulo 8)". */
    private static void classModulo8() {
        int[] edges = {0, 7, 8, 15, 128, 248, 255};
        for (int k : edges) {
            Bench bench = new Bench().frames(k % 8, 1);
            bench.procedure(0, k, Bench.HALT);
            CHECK.due("class " + k, bench.x.start(1, 0), 0);
            CHECK.due("of " + k % 8, bench.x.peek(bench.x.process(0, 2) + 3), k % 8);
            CHECK.due("none is left", bench.x.free(k % 8), 0);
        }
    }

    /** "A FRAME: 1: its global frame g (modulo 16)". */
    private static void globalFrameModulo16() {
        int[] edges = {0, 15, 16, 31, 32768, 65520, 65535};
        for (int g : edges) {
            Bench bench = Bench.at(Bench.words(), 5, 0, 25, 0);
            int frame = bench.x.process(0, 2);
            bench.x.poke(32, 0);
            bench.x.poke(32 + g % 16, Bench.GLOBAL);
            bench.x.poke(Bench.GLOBAL + 1, 99);
            bench.x.poke(frame + 1, g);
            CHECK.leaves("a frame of global frame " + g, bench, 1, 99);
            bench.x.run(1);
            CHECK.due("what it calls is of " + g % 16, bench.x.peek(bench.x.process(0, 2) + 1), g % 16);
        }
    }

    /** "3: its class (modulo 8)". */
    private static void frameClassModulo8() {
        int[] edges = {0, 7, 8, 15, 32768, 65528, 65535};
        for (int k : edges) {
            Bench bench = Bench.at(Bench.words(), 27);
            int frame = bench.x.process(0, 2);
            bench.x.poke(frame + 3, k);
            int before = bench.x.free(k % 8);
            bench.x.run(1);
            CHECK.due("a frame of class " + k + " is the first one of " + k % 8, bench.x.peek(16 + k % 8), frame);
            CHECK.due("one more", bench.x.free(k % 8), before + 1);
            CHECK.due("its word 3 stays", bench.x.peek(frame + 3), k);
        }
    }

    /** "LINKS: 0 is none." */
    private static void linkNone() {
        CHECK.faults("28 of 0", Bench.at(Bench.words(0), 28), 4);
        CHECK.faults("26 of 0", Bench.at(Bench.words(), 26, 0), 4);
        CHECK.faults("31 of 0", Bench.at(Bench.words(1, 0), 31), 4);
    }

    /** "A multiple of 4: a frame." */
    private static void linksOfFrames() {
        int[] edges = {4, 1600, 4092, 4096, 65532};
        for (int frame : edges) {
            Bench bench = Bench.at(Bench.words(frame), 28);
            int free = bench.x.free(0);
            bench.x.run(1);
            CHECK.due("28 of " + frame, bench.fault(0), 0);
            CHECK.due("its frame", bench.x.process(0, 2), frame);
            CHECK.due("none is taken", bench.x.free(0), free);
        }
    }

    /** "Odd: PROCEDURE e = link / 2 modulo 16 of global frame link / 32 modulo 16." */
    private static void linksOfProcedures() {
        int[] links = {1, 3, 31, 33, 481, 511, 513, 543, 545, 32767, 65023, 65025, 65535};
        for (int link : links) {
            int e = link / 2 % 16;
            int g = link / 32 % 16;
            Bench bench = Bench.at(Bench.words(link), 28);
            bench.x.poke(32 + g, Bench.GLOBAL);
            int begin = bench.procedure(e, 0, Bench.HALT);
            bench.x.run(1);
            int frame = bench.x.process(0, 2);
            CHECK.due("28 of " + link + ": g", bench.x.peek(frame + 1), g);
            CHECK.due("28 of " + link + ": where it begins", bench.x.peek(frame + 2), begin);
        }
    }

    /** "Others: the link is the word at link - 2 (if that is not such a one again: FAULT 4)." */
    private static void linksElsewhere() {
        int[] links = {2, 6, 1602, 4094, 4098, 65534};
        for (int link : links) {
            CHECK.due("28 by " + link + ", of a frame", elsewhere(link, 1604).x.process(0, 2), 1604);
            Bench called = elsewhere(link, 1);
            CHECK.due("28 by " + link + ", of a procedure", called.next(0), 65);
            CHECK.due("28 by " + link + ", again", elsewhere(link, 2).fault(0), 4);
            CHECK.due("28 by " + link + ", again", elsewhere(link, 65534).fault(0), 4);
            CHECK.due("28 by " + link + ", none", elsewhere(link, 0).fault(0), 4);
        }
        Bench bench = Bench.at(Bench.words(1602), 28);
        bench.x.poke(1600, 1606);
        bench.x.poke(1604, 1);
        CHECK.faults("28, two steps from a procedure", bench, 4);
    }

    private static Bench elsewhere(int link, int word) {
        Bench bench = Bench.at(Bench.words(link), 28);
        bench.x.map(15, 11);
        bench.x.poke((link - 2) % 4096, word);
        bench.x.run(1);
        return bench;
    }
}
