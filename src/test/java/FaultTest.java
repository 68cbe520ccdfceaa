/** FAULTs: which one, in which order, with all as before but the notes; and promise 9's going on behind them. */
public final class FaultTest {
    private static final int NONE = FrameProcessor.NONE;
    private static final Check CHECK = new Check("FaultTest");

    public static void main(String[] args) {
        stackShort();
        stackFull();
        division();
        pagesOfTheFetch();
        writesOfTheEnd();
        noPageBeforeProtected();
        operandsOnAnotherPage();
        jumpsOnlyAtTheEnd();
        twiceWritten();
        stoppedAlone();
        CHECK.end();
    }

    /** The fault of the next instruction, which must leave all as it was. */
    private static int faultOf(String what, Bench bench) {
        String before = bench.x.pictureBut(0);
        CHECK.due(what + ": counts", bench.x.run(1), 1);
        CHECK.due(what + ": STOPPED", bench.x.process(0, 0), 4);
        CHECK.same(what + ": all is as before", bench.x.pictureBut(0), before);
        return bench.fault(0);
    }

    /** A process that has done some pushes of 7 and stands at the instruction. */
    private static Bench at(int pushes, int... bytes) {
        int[] all = new int[2 * pushes + bytes.length];
        for (int i = 0; i < pushes; i++) {
            all[2 * i] = 1;
            all[2 * i + 1] = 7;
        }
        System.arraycopy(bytes, 0, all, 2 * pushes, bytes.length);
        Bench bench = new Bench().frames(0, 4);
        bench.procedure(0, 0, Bench.ended(all));
        bench.x.start(1, 0);
        bench.x.run(pushes);
        return bench;
    }

    private static void stackShort() {
        int[] pops = new int[46];
        int[] ones = {4, 6, 7, 17, 18, 21, 23, 28, 30, 40, 41, 43, 44};
        int[] twos = {8, 9, 10, 11, 12, 13, 14, 15, 16, 19, 22, 24, 31};
        for (int code : ones) {
            pops[code] = 1;
        }
        for (int code : twos) {
            pops[code] = 2;
        }
        pops[42] = 3;
        for (int code = 0; code < 46; code++) {
            for (int have = 0; have < pops[code]; have++) {
                CHECK.due(code + " with " + have, faultOf(code + " with " + have, at(have, code, 1)), 5);
            }
            if (pops[code] > 0) {
                Bench enough = at(pops[code], code, 1);
                enough.x.run(1);
                CHECK.due(code + " with enough", enough.fault(0) == 5 ? 1 : 0, 0);
            }
        }
    }

    private static void stackFull() {
        int[][] pushing = {{1, 1}, {2, 1, 1}, {3, 0}, {5, 0}, {17}, {29, 0}};
        for (int[] bytes : pushing) {
            CHECK.due(bytes[0] + " with 8", faultOf(bytes[0] + " with 8", at(8, bytes)), 6);
            Bench seven = at(7, bytes);
            seven.x.run(1);
            CHECK.due(bytes[0] + " with 7", seven.x.process(0, 3), 8);
        }
        int[][] fitting = {{7, 0}, {19}, {23, 15}, {24, 15}, {0}, {9}};
        for (int[] bytes : fitting) {
            Bench eight = at(8, bytes);
            eight.x.run(1);
            CHECK.due(bytes[0] + " fits", eight.fault(0), 0);
        }
        // behind FAULT 6 comes the write of the next byte, ahead of it the frame that is taken
        Bench both = at(8, 1, 1);
        both.x.protect(4, true);
        CHECK.due("FAULT 6 comes first", faultOf("6 and 2", both), 6);
        Bench taken = at(8, 29, 0);
        taken.clearNotes();
        faultOf("29 with 8", taken);
        CHECK.due("the list was written, until then", taken.x.noted(0), 3);
        Bench none = at(8, 29, 7);
        CHECK.due("FAULT 3 comes ahead of 6", faultOf("3 and 6", none), 3);
    }

    private static void division() {
        Bench bench = new Bench().frames(0, 1);
        bench.procedure(0, 0, 1, 5, 1, 0, 12, Bench.HALT);
        bench.x.start(1, 0);
        bench.x.run(2);
        CHECK.due("by 0", faultOf("DIV by 0", bench), 7);
        Bench small = new Bench().frames(0, 1);
        small.procedure(0, 0, 1, 0, 12, Bench.HALT);
        small.x.start(1, 0);
        small.x.run(1);
        CHECK.due("the pops come first", faultOf("DIV of one", small), 5);
    }

    private static void pagesOfTheFetch() {
        int[] pages = {4, 0, 2, 3};
        for (int i = 0; i < pages.length; i++) {
            Bench bench = at(1, 0);
            bench.clearNotes();
            bench.x.map(pages[i], NONE);
            CHECK.due("no page " + pages[i], faultOf("no page " + pages[i], bench), 1);
            for (int k = 0; k < pages.length; k++) {
                CHECK.due("read until then: " + pages[k], bench.x.noted(pages[k]), k < i ? 1 : 0);
            }
            bench.x.map(pages[i], pages[i]);
            bench.x.resume(0);
            bench.x.run(2);
            CHECK.due("goes on when it is there", bench.fault(0), 9);
        }
        // the frame's word 2 is on the next page, and is read behind C, ahead of the bytes
        Bench bench = new Bench();
        bench.procedure(0, 0, Bench.HALT);
        bench.x.poke(16, 1278);
        bench.x.start(1, 0);
        bench.clearNotes();
        bench.x.map(5, NONE);
        bench.x.run(1);
        CHECK.due("word 2 has no page", bench.fault(0), 1);
        CHECK.due("C was read", bench.x.noted(2), 1);
        CHECK.due("the code was not", bench.x.noted(3), 0);
    }

    private static void writesOfTheEnd() {
        Bench bench = at(1, 2, 1, 1);
        bench.x.protect(4, true);
        bench.clearNotes();
        CHECK.due("the next byte is a write", faultOf("a protected frame", bench), 2);
        CHECK.due("which was not done", bench.x.noted(4), 1);
        Bench store = new Bench().frames(0, 1);
        store.procedure(0, 0, 1, 9, 2, 6, 64, 8, 0, Bench.HALT);
        store.x.start(1, 0);
        store.x.run(2);
        store.clearNotes();
        store.x.protect(4, true);
        CHECK.due("a store is undone", faultOf("a store", store), 2);
        CHECK.due("but noted", store.x.noted(6), 3);
        store.x.protect(4, false);
        store.x.resume(0);
        store.x.run(1);
        CHECK.due("and done behind resume()", store.x.peek(1600), 9);
        Bench call = at(0, 25, 0);
        call.x.protect(4, true);
        call.clearNotes();
        CHECK.due("a CALL writes it first", faultOf("a call", call), 2);
        CHECK.due("ahead of the heap", call.x.noted(0), 1);
    }

    private static void noPageBeforeProtected() {
        Bench bench = new Bench().frames(0, 1);
        bench.procedure(0, 0, 1, 9, 2, 15, 0, 8, 0, Bench.HALT);
        bench.x.start(1, 0);
        bench.x.run(2);
        bench.x.protect(15, true);
        CHECK.due("none and protected", faultOf("none and protected", bench), 1);
        bench.x.map(15, 8);
        bench.x.resume(0);
        CHECK.due("protected", faultOf("protected", bench), 2);
        CHECK.due("not noted", bench.x.noted(8), 0);
        bench.x.protect(15, false);
        bench.x.resume(0);
        bench.x.run(1);
        CHECK.due("written", bench.x.peek(15 * 256), 9);
    }

    private static void operandsOnAnotherPage() {
        // the code goes up to byte 511, the last one on page 3
        int[] codes = {1, 4, 2};
        for (int code : codes) {
            Bench bench = new Bench().frames(0, 1);
            bench.x.poke(Bench.CODE, 510);
            bench.putByte(510, 0);
            bench.putByte(511, code);
            bench.x.map(15, 4);
            bench.x.poke(16, 15 * 256);
            bench.x.start(1, 0);
            bench.x.map(4, NONE);
            CHECK.due("an operand has no page, ahead of the pops", faultOf("operand of " + code, bench), 1);
        }
        int[] operands = {
            0, 1, 2, 1, 1, 1, 1, 1, 1, 0, 0, 0, 0, 0, 0, 0, 0, 0, 0, 0, 1, 1, 1, 1, 1, 1, 1, 0, 0, 1, 0, 0, 0, 0, 0, 0,
            0, 0, 0, 0, 0, 0, 0, 0, 0, 0, 0
        };
        for (int code = 0; code < operands.length; code++) {
            Bench bench = lastOnThePage(code, operands[code]);
            bench.x.run(1);
            CHECK.due("no byte more is read than there are: " + code, bench.fault(0) == 1 ? 1 : 0, 0);
            if (code != 27) {
                bench = lastOnThePage(code, operands[code] - 1);
                bench.x.run(1);
                CHECK.due("and none less: " + code, bench.fault(0) == 1 ? 1 : 0, operands[code] > 0 ? 1 : 0);
            }
        }
    }

    /** The code, and so many operands, end page 3; the next page is none. */
    private static Bench lastOnThePage(int code, int operands) {
        int first = 511 - Math.max(0, operands);
        Bench bench = new Bench().frames(0, 1);
        bench.x.poke(Bench.CODE, first - 7);
        int[] bytes = {0, 1, 200, 1, 200, 1, 200, code};
        for (int i = 0; i < bytes.length; i++) {
            bench.putByte(first - 7 + i, bytes[i]);
        }
        bench.x.map(15, 4);
        bench.x.poke(16, 15 * 256);
        bench.x.poke(198, 1);
        bench.x.start(1, 0);
        bench.x.map(4, NONE);
        bench.x.run(3);
        return bench;
    }

    private static void jumpsOnlyAtTheEnd() {
        Bench bench = new Bench().frames(0, 1);
        bench.procedure(0, 0, 1, 0, 21, 10, Bench.HALT);
        bench.x.start(1, 0);
        bench.x.run(1);
        bench.x.protect(4, true);
        CHECK.due("a jump that cannot be written", faultOf("a jump", bench), 2);
    }

    private static void twiceWritten() {
        // the frame at 1279 goes back and is taken again, so its list is written twice; its word 3 cannot be
        Bench bench = new Bench();
        Machine x = bench.x;
        x.poke(16, 1279);
        bench.procedure(0, 0, 27);
        x.start(1, 0);
        x.poke(1279, 1);
        x.poke(16, 1600);
        x.protect(5, true);
        CHECK.due("a RETURN to a procedure", faultOf("written twice", bench), 2);
        CHECK.due("the list", x.peek(16), 1600);
    }

    private static void stoppedAlone() {
        Bench bench = new Bench().frames(0, 2);
        Machine x = bench.x;
        bench.procedure(0, 0, Bench.HALT);
        bench.procedure(1, 0, 1, 1, 20, -2);
        x.start(1, 5);
        x.start(3, 5);
        CHECK.due("others go on", x.run(3), 3);
        CHECK.due("STOPPED", x.process(0, 0), 4);
        CHECK.due("its priority stays", x.process(0, 1), 5);
        CHECK.due("READY", x.process(1, 0), 1);
        CHECK.due("the place of the other", x.process(1, 7), 0);
    }
}
