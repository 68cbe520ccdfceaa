/** The boundary cases of processes and of instructions 25 to 45: a test for each sentence. */
public final class TransferEdgeTest {
    private static final int NONE = FrameProcessor.NONE;
    private static final int FRAME = 1080;
    private static final int MONITOR = 2048;
    private static final int CONDITION = 2304;
    private static final Check CHECK = new Check("TransferEdgeTest");

    public static void main(String[] args) {
        priorities();
        firstThatBecameReady();
        keepsItsPlace();
        callOfTheSameGlobalFrame();
        callBelowTheGlobalFrame();
        word2FirstInACall();
        nextByteOfACallModulo65536();
        callWithoutFrames();
        returnToNone();
        returnToAProcedure();
        returnWithAllAsBefore();
        takeModulo8();
        giveBackFirst();
        giveBackZero();
        forkPriorityModulo8();
        forkWithNoneFree();
        forkOfNoProcedure();
        forkEndsLast();
        forkWithFullStack();
        enterOfZero();
        enterOfAnother();
        exitWithNobody();
        exitOfTheFirst();
        waitWithoutTimeout();
        waitWithTheLongestTimeout();
        waitOfAnOddWord();
        waitLetsAnotherEnter();
        notifyOfTheFirst();
        notifyWithNobody();
        notifyAllOfFive();
        othersWhenAllIsDone();
        yieldAlone();
        CHECK.end();
    }

    /** A bench where process 0 stands at the instruction, and procedure 1 only jumps to itself. */
    private static Bench at(int[] words, int... bytes) {
        Bench bench = Bench.at(words, bytes);
        bench.procedure(1, 0, 20, 0);
        return bench;
    }

    /** "The one that RUNS is the READY one of the highest priority" (0 .. 7). */
    private static void priorities() {
        for (int low = 0; low < 7; low++) {
            Machine x = at(Bench.words(), 0).x;
            x.kill(0);
            x.start(3, low);
            CHECK.due("alone, of " + low, x.running(), 0);
            x.start(3, low + 1);
            CHECK.due("one more than " + low, x.running(), 1);
            x.start(3, 0);
            x.start(3, 7);
            CHECK.due("7 against " + (low + 1), x.running(), low + 1 == 7 ? 1 : 3);
        }
    }

    /** "of several that which became READY first". */
    private static void firstThatBecameReady() {
        Machine x = at(Bench.words(), Bench.HALT).x;
        for (int p = 1; p < 6; p++) {
            x.start(3, 3);
        }
        CHECK.due("the first of six", x.running(), 0);
        x.run(1);
        CHECK.due("it is STOPPED: the second", x.running(), 1);
        x.resume(0);
        CHECK.due("it became READY last", x.running(), 1);
        for (int p = 1; p < 6; p++) {
            CHECK.due("place of " + p, x.process(p, 7), p - 1);
        }
        CHECK.due("the last place", x.process(0, 7), 5);
        for (int p = 1; p < 6; p++) {
            x.kill(p);
        }
        CHECK.due("alone", x.running(), 0);
    }

    /** "(one that stays READY keeps its place)". */
    private static void keepsItsPlace() {
        Machine x = at(Bench.words(), 20, 0).x;
        x.start(3, 3);
        x.start(3, 7);
        x.run(500);
        CHECK.due("one that could not run", x.process(0, 7), 0);
        CHECK.due("nor this", x.process(1, 7), 1);
        CHECK.due("one that ran", x.process(2, 7), 2);
        x.kill(2);
        x.run(500);
        CHECK.due("still the first", x.running(), 0);
        CHECK.due("its place", x.process(0, 7), 0);
    }

    /** "25 n: CALL of procedure n modulo 16 of the same g." */
    private static void callOfTheSameGlobalFrame() {
        int[] edges = {0, 15, 16, 31, 128, 240, 255};
        for (int n : edges) {
            Bench bench = Bench.at(Bench.words(7), 25, n);
            int begin = bench.procedure(n % 16, 0, Bench.HALT);
            CHECK.leaves("25 " + n, bench, 1, 7);
            CHECK.due("where it begins", bench.next(0), begin);
        }
    }

    /** "26 n: CALL of the link that is the word at G - 1 - n." */
    private static void callBelowTheGlobalFrame() {
        int[] edges = {0, 1, 127, 128, 255};
        for (int n : edges) {
            Bench bench = Bench.at(Bench.words(7), 26, n);
            bench.x.poke(Bench.GLOBAL - 1 - n, 1600);
            CHECK.leaves("26 " + n, bench, 1, 7);
            CHECK.due("its frame", bench.x.process(0, 2), 1600);
        }
    }

    /** "CALL (first the own frame's word 2 becomes the byte behind the instruction, and not at its end". */
    private static void word2FirstInACall() {
        int[][] calls = {{25, 0}, {26, 0}, {28}};
        for (int[] bytes : calls) {
            // the frame that is taken lies over the caller's word 2: its own word 0 stays there
            Bench bench = Bench.at(Bench.words(1), bytes);
            Machine x = bench.x;
            int behind = bench.next(0) + bytes.length;
            x.poke(Bench.GLOBAL - 1, 1);
            x.poke(16, FRAME + 2);
            x.run(1);
            CHECK.due(bytes[0] + ": the frame", x.process(0, 2), FRAME + 2);
            CHECK.due(bytes[0] + ": its word 0", x.peek(FRAME + 2), FRAME);
            CHECK.due(bytes[0] + ": its word 2", x.peek(FRAME + 4), 65);
            CHECK.due(bytes[0] + ": what was in it is the first free one", x.peek(16), behind);
        }
    }

    /** The byte behind a CALL at 65535 is 0. */
    private static void nextByteOfACallModulo65536() {
        Bench bench = Bench.at(Bench.words(1600));
        bench.x.map(15, 11);
        bench.x.poke((Bench.CODE + 32767) % 4096, 28);
        bench.x.poke(FRAME + 2, 65535);
        bench.x.run(1);
        CHECK.due("called", bench.x.process(0, 2), 1600);
        CHECK.due("the caller's word 2", bench.x.peek(FRAME + 2), 0);
    }

    /** "a frame is taken": FAULT 3 without, with the caller's word 2 as it was. */
    private static void callWithoutFrames() {
        int[][] calls = {{25, 0}, {26, 0}, {28, 0}};
        for (int[] bytes : calls) {
            Bench bench = Bench.at(Bench.words(1), bytes);
            bench.x.poke(Bench.GLOBAL - 1, 1);
            bench.x.poke(16, 0);
            CHECK.faults(bytes[0] + " without a frame", bench, 3);
        }
        Bench fork = Bench.at(Bench.words(1, 1), 31);
        fork.x.poke(16, 0);
        CHECK.faults("31 without a frame", fork, 3);
        Bench back = Bench.at(Bench.words(), 27);
        back.x.poke(FRAME, 1);
        back.x.poke(FRAME + 3, 0);
        back.procedure(0, 1, Bench.HALT);
        CHECK.faults("27 to a procedure without a frame", back, 3);
    }

    /** "but with link 0 the process is FREE (nothing is left of it; word 2 stays in both)". */
    private static void returnToNone() {
        Bench bench = Bench.at(Bench.words(1, 2, 3), 27);
        Machine x = bench.x;
        int next = bench.next(0);
        CHECK.due("counts", x.run(500), 1);
        int[] due = {0, 0, 0, 0, NONE, 0, 0, NONE};
        for (int what = 0; what < 8; what++) {
            CHECK.due("process(0, " + what + ")", x.process(0, what), due[what]);
        }
        CHECK.due("its stack", x.stack(0, 0), NONE);
        CHECK.due("none runs", x.running(), NONE);
        CHECK.due("its frame is the first free one", x.peek(16), FRAME);
        CHECK.due("word 2 stays", x.peek(FRAME + 2), next);
        Bench called = Bench.at(Bench.words(), 27);
        next = called.next(0);
        called.x.poke(FRAME, 1600);
        called.x.run(1);
        CHECK.due("back in a frame", called.x.process(0, 2), 1600);
        CHECK.due("word 2 stays, too", called.x.peek(FRAME + 2), next);
    }

    /** "then what was its word 0 is CALLED, from none": though its word 0 is the next free one by then. */
    private static void returnToAProcedure() {
        Bench bench = at(Bench.words(5), 27);
        bench.x.poke(FRAME, 3);
        int begin = bench.x.peek(Bench.CODE + 1) + 1;
        CHECK.leaves("27 to a procedure", bench, 1, 5);
        CHECK.due("the frame that went back is taken", bench.x.process(0, 2), FRAME);
        CHECK.due("its word 0", bench.x.peek(FRAME), 0);
        CHECK.due("its word 2", bench.x.peek(FRAME + 2), begin);
        CHECK.due("the list is as before", bench.x.peek(16), FRAME - 8);
    }

    /** A RETURN that FAULTs leaves the frame where it was, and the list too. */
    private static void returnWithAllAsBefore() {
        Bench again = Bench.at(Bench.words(5), 27);
        again.x.poke(FRAME, 1602);
        again.x.poke(1600, 1602);
        CHECK.faults("27 by a link to such a one again", again, 4);
        Bench none = Bench.at(Bench.words(5), 27);
        none.x.poke(FRAME, 1602);
        CHECK.faults("27 by a link to none", none, 4);
        Bench gone = Bench.at(Bench.words(5), 27);
        gone.x.poke(FRAME, 3074);
        CHECK.faults("27 by a link that has no page", gone, 1);
        Bench list = Bench.at(Bench.words(5), 27);
        list.x.protect(0, true);
        CHECK.faults("27 with a list that is protected", list, 2);
        Bench frame = Bench.at(Bench.words(5), 27);
        frame.x.protect(4, true);
        CHECK.faults("27 with a frame that is protected", frame, 2);
    }

    /** "29 k: TAKE a frame of class k modulo 8, push it." */
    private static void takeModulo8() {
        int[] edges = {0, 7, 8, 15, 128, 248, 255};
        for (int k : edges) {
            Bench bench = Bench.at(Bench.words(), 29, k);
            for (int each = 0; each < 8; each++) {
                bench.x.poke(16 + each, 1600 + 100 * each);
            }
            CHECK.leaves("29 " + k, bench, 1, 1600 + 100 * (k % 8));
        }
    }

    /** "30: pop p: the frame at p becomes the first free one of the class that its word 3 says (modulo 8". */
    private static void giveBackFirst() {
        int[] edges = {0, 7, 8, 15, 32768, 65528, 65535};
        for (int k : edges) {
            Bench bench = Bench.at(Bench.words(7, 1600), 30);
            bench.x.poke(1600, 4711);
            bench.x.poke(1603, k);
            int first = bench.x.peek(16 + k % 8);
            CHECK.leaves("30, of class " + k, bench, 1, 7);
            CHECK.due("the first free one", bench.x.peek(16 + k % 8), 1600);
            CHECK.due("the next free one", bench.x.peek(1600), first);
        }
        Bench high = Bench.at(Bench.words(4096 + 1600), 30);
        high.x.run(1);
        CHECK.due("a frame beyond 4095", high.x.peek(16), 4096 + 1600);
        CHECK.due("its word 0, modulo 4096", high.x.peek(1600), FRAME - 8);
    }

    /** The frame at 0 is no other than the rest; but 0 as the first free one is none. */
    private static void giveBackZero() {
        Bench bench = Bench.at(Bench.words(0), 30);
        CHECK.leaves("30 of 0", bench, 0, NONE);
        CHECK.due("its word 0", bench.x.peek(0), FRAME - 8);
        CHECK.due("none is free", bench.x.free(0), 0);
    }

    /** "31: pop a link, pop a priority (modulo 8)". */
    private static void forkPriorityModulo8() {
        int[] edges = {0, 7, 8, 15, 32768, 65528, 65535};
        for (int priority : edges) {
            Bench bench = at(Bench.words(5, priority, 3), 31);
            CHECK.leaves("31 with " + priority, bench, 1, 5);
            CHECK.due("its priority", bench.x.process(1, 1), priority % 8);
            CHECK.due("an empty stack", bench.x.process(1, 3), 0);
            CHECK.due("its word 0", bench.x.peek(bench.x.process(1, 2)), 0);
        }
    }

    /** "FAULT 8 if none is FREE (behind the pops, ahead of all else)". */
    private static void forkWithNoneFree() {
        int[] links = {3, 0, 1600, 1602, 3074};
        for (int link : links) {
            Bench full = at(Bench.words(1, link), 31);
            for (int p = 1; p < 6; p++) {
                full.x.start(3, 0);
            }
            full.clearNotes();
            full.x.protect(4, true);
            CHECK.faults("31 of " + link + ", the seventh", full, 8);
            CHECK.due("its list was not read: noted is the fetch", full.x.noted(0), 1);
            CHECK.due("nor the word of the link", full.x.noted(6), 0);
        }
        Bench last = at(Bench.words(1, 3), 31);
        for (int p = 1; p < 5; p++) {
            last.x.start(3, 0);
        }
        CHECK.leaves("31, the sixth", last, 0, NONE);
        CHECK.due("it is READY", last.x.process(5, 0), 1);
        Bench few = Bench.at(Bench.words(3), 31);
        for (int p = 1; p < 6; p++) {
            few.x.start(1, 0);
        }
        CHECK.faults("31 with one on the stack, and none FREE", few, 5);
        Bench middle = at(Bench.words(1, 3), 31);
        for (int p = 1; p < 6; p++) {
            middle.x.start(3, 0);
        }
        middle.x.kill(2);
        middle.x.kill(4);
        CHECK.leaves("31 with two that are FREE", middle, 0, NONE);
        CHECK.due("the least one", middle.x.process(2, 0), 1);
        CHECK.due("not the other", middle.x.process(4, 0), 0);
    }

    /** "or the link is no procedure in the end". */
    private static void forkOfNoProcedure() {
        CHECK.faults("31 of a frame", Bench.at(Bench.words(1, 1600), 31), 8);
        CHECK.faults("31 of the lowest frame", Bench.at(Bench.words(1, 4), 31), 8);
        CHECK.faults("31 of the highest frame", Bench.at(Bench.words(1, 65532), 31), 8);
        Bench frame = Bench.at(Bench.words(1, 1602), 31);
        frame.x.poke(1600, 1604);
        CHECK.faults("31 by a word, of a frame", frame, 8);
        Bench again = Bench.at(Bench.words(1, 1602), 31);
        again.x.poke(1600, 1606);
        CHECK.faults("31 by a word, of such a one again", again, 4);
        Bench procedure = at(Bench.words(1, 1602), 31);
        procedure.x.poke(1600, 3);
        CHECK.leaves("31 by a word, of a procedure", procedure, 0, NONE);
        CHECK.due("it is READY", procedure.x.process(1, 0), 1);
    }

    /** "as a CALL from none": so it is at its end, with the last write, that the own word 2 is written. */
    private static void forkEndsLast() {
        Bench guarded = at(Bench.words(1, 3), 31);
        guarded.clearNotes();
        guarded.x.poke(16, 2560);
        guarded.x.protect(4, true);
        CHECK.faults("31 that cannot end", guarded, 2);
        CHECK.due("the list was written until then", guarded.x.noted(0), 3);
        CHECK.due("and the new frame", guarded.x.noted(10), 3);
        // the new frame lies over the own word 2
        Bench over = at(Bench.words(1, 3), 31);
        int behind = over.next(0) + 1;
        over.x.poke(16, FRAME + 2);
        CHECK.leaves("31", over, 0, NONE);
        CHECK.due("the new frame", over.x.process(1, 2), FRAME + 2);
        CHECK.due("the own word 2 is written last", over.x.peek(FRAME + 2), behind);
    }

    /** An empty stack for the new process, though the one that makes it has a full one. */
    private static void forkWithFullStack() {
        Bench bench = at(Bench.words(1, 2, 3, 4, 5, 6, 0, 3), 31);
        CHECK.leaves("31 with 8", bench, 6, 6);
        CHECK.due("an empty stack", bench.x.process(1, 3), 0);
        CHECK.due("with no word", bench.x.stack(1, 0), NONE);
    }

    /** "40: pop m: ENTER: if the word at m is 0, it becomes 1". */
    private static void enterOfZero() {
        Bench bench = Bench.at(Bench.words(7, MONITOR), 40);
        bench.clearNotes();
        CHECK.leaves("40", bench, 1, 7);
        CHECK.due("the word", bench.x.peek(MONITOR), 1);
        CHECK.due("its page", bench.x.noted(8), 3);
        Bench guarded = Bench.at(Bench.words(MONITOR), 40);
        guarded.x.protect(8, true);
        CHECK.faults("40 of 0 in a protected page", guarded, 2);
        CHECK.faults("40 in a page of none", Bench.at(Bench.words(3072), 40), 1);
    }

    /** "else BLOCKED at m (modulo 4096), at this same instruction, with all as before it". */
    private static void enterOfAnother() {
        int[] others = {1, 2, 256, 32768, 65535};
        for (int word : others) {
            Bench bench = Bench.at(Bench.words(7, MONITOR + 61440), 40);
            bench.x.poke(MONITOR, word);
            bench.x.protect(8, true);
            String before = bench.x.pictureBut(0);
            CHECK.due("counts", bench.x.run(500), 1);
            CHECK.due("BLOCKED by " + word, bench.x.process(0, 0), 2);
            CHECK.due("at its address", bench.x.process(0, 4), MONITOR);
            CHECK.due("no FAULT", bench.fault(0), 0);
            CHECK.same("all is as before", bench.x.pictureBut(0), before);
        }
        Bench full = Bench.at(Bench.words(1, 2, 3, 4, 5, 6, 7, MONITOR), 40);
        full.x.poke(MONITOR, 1);
        full.x.run(1);
        CHECK.due("with a full stack", full.x.process(0, 3), 8);
        CHECK.due("and its top", full.top(), MONITOR);
    }

    /** "41: pop m: EXIT: the word becomes 0, and of those BLOCKED at m the first one is READY": or nobody. */
    private static void exitWithNobody() {
        int[] words = {0, 1, 65535};
        for (int word : words) {
            Bench bench = Bench.at(Bench.words(7, MONITOR + 4096), 41);
            bench.x.poke(MONITOR, word);
            CHECK.leaves("41 of " + word, bench, 1, 7);
            CHECK.due("the word", bench.x.peek(MONITOR), 0);
            CHECK.due("it stays READY, at its place", bench.x.process(0, 7), 0);
        }
        Bench guarded = Bench.at(Bench.words(MONITOR), 41);
        guarded.x.protect(8, true);
        CHECK.faults("41 of 0 in a protected page", guarded, 2);
        CHECK.faults("41 in a page of none", Bench.at(Bench.words(3072), 41), 1);
    }

    /** "(the highest priority, of several the first that was)". */
    private static void exitOfTheFirst() {
        Bench bench = Bench.at(Bench.words(MONITOR, MONITOR, MONITOR, MONITOR, MONITOR), 41, 41, 41, 41, 41);
        Machine x = bench.x;
        bench.procedure(1, 0, 2, MONITOR >> 8, 0, 40);
        x.poke(MONITOR, 1);
        int[] priorities = {4, 7, 7, 4, 6};
        for (int priority : priorities) {
            x.start(3, priority);
            x.run(2);
        }
        int[] order = {2, 3, 5, 1, 4};
        for (int i = 0; i < 5; i++) {
            CHECK.due("process 0 runs", x.running(), 0);
            x.run(1);
            for (int k = 0; k < 5; k++) {
                int due = k < i ? 0 : k == i ? 1 : 2;
                CHECK.due("behind exit " + i + " process " + order[k], x.process(order[k], 0), due);
            }
            CHECK.due("at its place", x.process(order[i], 7), 1);
            x.kill(order[i]);
        }
        CHECK.due("no more", x.process(0, 3), 0);
    }

    private static Bench waiting(int timeout, int word) {
        Bench bench = Bench.at(Bench.words(7, MONITOR + 4096, CONDITION + 8192, timeout), 42);
        bench.x.poke(MONITOR, 1);
        bench.x.poke(CONDITION, word);
        CHECK.due("42 counts", bench.x.run(1), 1);
        CHECK.due("42: popped", bench.x.process(0, 3), 1);
        CHECK.due("42: EXIT", bench.x.peek(MONITOR), 0);
        return bench;
    }

    /** "WAITING at c with TIMEOUT t (0: none)". */
    private static void waitWithoutTimeout() {
        Machine x = waiting(0, 0).x;
        CHECK.due("WAITING", x.process(0, 0), 3);
        CHECK.due("at", x.process(0, 4), CONDITION);
        CHECK.due("no TIMEOUT", x.process(0, 5), 0);
        CHECK.due("no tick ends it", x.tick(100000), 0);
        CHECK.due("still", x.process(0, 0), 3);
        CHECK.due("an interrupt does", x.interrupt(CONDITION), 0);
    }

    /** TIMEOUTs 1 and 65535. */
    private static void waitWithTheLongestTimeout() {
        Machine x = waiting(65535, 0).x;
        CHECK.due("TIMEOUT", x.process(0, 5), 65535);
        CHECK.due("one tick less", x.tick(65534), 0);
        CHECK.due("WAITING", x.process(0, 0), 3);
        CHECK.due("the last one", x.tick(1), 1);
        Machine y = waiting(1, 0).x;
        CHECK.due("TIMEOUT", y.process(0, 5), 1);
        CHECK.due("no tick", y.tick(0), 0);
        CHECK.due("one tick", y.tick(1), 1);
    }

    /** "then, if the word at c is odd, it becomes one less, else WAITING at c". */
    private static void waitOfAnOddWord() {
        int[] words = {0, 1, 2, 3, 255, 256, 32767, 32768, 65534, 65535};
        for (int word : words) {
            Machine x = waiting(9, word).x;
            CHECK.due("by " + word, x.process(0, 0), word % 2 == 1 ? 1 : 3);
            CHECK.due("the word", x.peek(CONDITION), word - word % 2);
            CHECK.due("where", x.process(0, 4), word % 2 == 1 ? NONE : CONDITION);
            CHECK.due("TIMEOUT", x.process(0, 5), word % 2 == 1 ? 0 : 9);
            CHECK.due("place", x.process(0, 7), word % 2 == 1 ? 0 : NONE);
        }
        CHECK.faults("a condition in a page of none", Bench.at(Bench.words(MONITOR, 3072, 0), 42), 1);
        CHECK.faults("a monitor in a page of none", Bench.at(Bench.words(3072, CONDITION, 0), 42), 1);
        Bench odd = Bench.at(Bench.words(MONITOR, CONDITION, 0), 42);
        odd.x.poke(CONDITION, 1);
        odd.x.protect(9, true);
        CHECK.faults("an odd condition in a protected page", odd, 2);
    }

    /** "42: WAIT: EXIT m": of those BLOCKED at m the first one is READY, also by a WAIT that does not wait. */
    private static void waitLetsAnotherEnter() {
        for (int word = 0; word < 2; word++) {
            Bench bench = Bench.at(Bench.words(MONITOR, CONDITION, 0), 42);
            Machine x = bench.x;
            bench.procedure(1, 0, 2, MONITOR >> 8, 0, 40);
            x.poke(MONITOR, 1);
            x.poke(CONDITION, word);
            int[] priorities = {4, 7, 7};
            for (int priority : priorities) {
                x.start(3, priority);
                x.run(2);
            }
            x.run(1);
            int[] due = {word == 0 ? 3 : 1, 2, 1, 2};
            for (int p = 0; p < 4; p++) {
                CHECK.due("by the word " + word + " process " + p, x.process(p, 0), due[p]);
            }
            CHECK.due("its place", x.process(2, 7), word);
        }
    }

    /** "43: pop c: NOTIFY: of those WAITING at c the first one (likewise) is READY." */
    private static void notifyOfTheFirst() {
        int[] words = {CONDITION, CONDITION + 4096, CONDITION, CONDITION + 61440, CONDITION};
        Bench bench = Bench.at(words, 43, 43, 43, 43, 43);
        Machine x = bench.x;
        bench.procedure(1, 0, 2, MONITOR >> 8, 0, 2, CONDITION >> 8, 0, 1, 9, 42);
        int[] priorities = {4, 7, 7, 4, 6};
        for (int priority : priorities) {
            x.start(3, priority);
            x.run(4);
        }
        int[] order = {2, 3, 5, 1, 4};
        for (int i = 0; i < 5; i++) {
            x.run(1);
            for (int k = 0; k < 5; k++) {
                int due = k < i ? 0 : k == i ? 1 : 3;
                CHECK.due("behind notify " + i + " process " + order[k], x.process(order[k], 0), due);
            }
            CHECK.due("at its place", x.process(order[i], 7), 1);
            CHECK.due("without a TIMEOUT", x.process(order[i], 5), 0);
            x.kill(order[i]);
        }
    }

    /** "43: pop c: NOTIFY: of those WAITING at c the first one is READY. 44: likewise all of them": or nobody. */
    private static void notifyWithNobody() {
        for (int code = 43; code < 45; code++) {
            int[] conditions = {CONDITION, 3072, 65535};
            for (int condition : conditions) {
                Bench bench = Bench.at(Bench.words(7, condition), code);
                bench.clearNotes();
                CHECK.leaves(code + " of " + condition, bench, 1, 7);
                CHECK.due("the word stays", bench.x.peek(CONDITION), 0);
                CHECK.due("and is not read", bench.x.noted(9), 0);
            }
            Bench blocked = Bench.at(Bench.words(CONDITION), code);
            blocked.procedure(1, 0, 2, CONDITION >> 8, 0, 40);
            blocked.x.poke(CONDITION, 1);
            blocked.x.start(3, 7);
            blocked.x.run(3);
            CHECK.due("one that is BLOCKED there stays so", blocked.x.process(1, 0), 2);
        }
    }

    /** "44: likewise all of them, the first one first." */
    private static void notifyAllOfFive() {
        Bench bench = Bench.at(Bench.words(CONDITION + 4096), 44);
        Machine x = bench.x;
        bench.procedure(1, 0, 2, MONITOR >> 8, 0, 2, CONDITION >> 8, 0, 1, 0, 42);
        int[] priorities = {4, 7, 7, 4, 6};
        for (int priority : priorities) {
            x.start(3, priority);
            x.run(4);
        }
        CHECK.due("all five WAIT", x.running(), 0);
        x.run(1);
        CHECK.due("the one that ran", x.process(0, 7), 0);
        int[] order = {2, 3, 5, 1, 4};
        for (int i = 0; i < 5; i++) {
            CHECK.due("process " + order[i] + " is READY", x.process(order[i], 0), 1);
            CHECK.due("its place", x.process(order[i], 7), i + 1);
        }
    }

    /** "(Others become READY when all is done.)": nobody does if the last write cannot be done. */
    private static void othersWhenAllIsDone() {
        int[][] stacks = {{0, 3}, {MONITOR}, {MONITOR, CONDITION, 0}, {CONDITION}, {CONDITION}};
        int[] codes = {31, 41, 42, 43, 44};
        for (int i = 0; i < codes.length; i++) {
            Bench bench = Bench.at(stacks[i], codes[i]);
            Machine x = bench.x;
            bench.procedure(1, 0, 2, MONITOR >> 8, 0, 40);
            bench.procedure(2, 0, 2, MONITOR >> 8, 8, 2, CONDITION >> 8, 0, 1, 9, 42);
            x.poke(MONITOR, 1);
            x.start(3, 7);
            x.start(5, 7);
            x.run(6);
            CHECK.due("one is BLOCKED, one WAITS", x.process(1, 0) * 10 + x.process(2, 0), 23);
            x.poke(16, 2560);
            x.protect(4, true);
            CHECK.faults(codes[i] + " that cannot end", bench, 2);
            x.protect(4, false);
            x.resume(0);
            CHECK.leaves(codes[i] + " that can", bench, 0, NONE);
            int ready = codes[i] == 31 ? 3 : codes[i] < 43 ? 1 : 2;
            CHECK.due(codes[i] + " makes another READY", x.process(ready, 0), 1);
        }
    }

    /** "45: it becomes READY anew, behind the others": or behind nobody. */
    private static void yieldAlone() {
        Bench bench = Bench.at(Bench.words(7), 45);
        CHECK.leaves("45 alone", bench, 1, 7);
        CHECK.due("its place", bench.x.process(0, 7), 0);
        CHECK.due("runs", bench.x.running(), 0);
        Bench six = at(Bench.words(7), 45);
        for (int p = 1; p < 6; p++) {
            six.x.start(3, p == 5 ? 3 : 0);
        }
        CHECK.leaves("45 of six", six, 1, 7);
        CHECK.due("its place", six.x.process(0, 7), 5);
        CHECK.due("runs", six.x.running(), 5);
        Bench guarded = at(Bench.words(), 45);
        guarded.x.start(3, 3);
        guarded.x.protect(4, true);
        CHECK.faults("45 that cannot end", guarded, 2);
    }
}
