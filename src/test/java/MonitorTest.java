/** Instructions 40 to 45 and promises 11 and 12: monitors, conditions, interrupts and ticks. */
public final class MonitorTest {
    private static final int NONE = FrameProcessor.NONE;
    private static final int MONITOR = 1600;
    private static final int CONDITION = 1601;
    private static final Check CHECK = new Check("MonitorTest");

    public static void main(String[] args) {
        entering();
        exitOrder();
        exitAtEnd();
        waiting();
        waitFinds();
        waitOrder();
        notifying();
        notifyingAll();
        interrupts();
        interruptWord();
        ticks();
        ticksTogether();
        ticksApart();
        CHECK.end();
    }

    /** Procedures: 0 enters and halts, 1 exits and halts, 2 waits for so many ticks, 3 notifies, 4 notifies all. */
    private static Bench bench(int timeout) {
        Bench bench = new Bench().frames(0, 12);
        bench.procedure(0, 0, 2, 6, 64, 40, Bench.HALT);
        bench.procedure(1, 0, 2, 6, 64, 41, Bench.HALT);
        bench.procedure(2, 0, 2, 6, 64, 2, 6, 65, 2, timeout >> 8, timeout & 255, 42, Bench.HALT);
        bench.procedure(3, 0, 2, 6, 65, 43, Bench.HALT);
        bench.procedure(4, 0, 2, 6, 65, 44, Bench.HALT);
        return bench;
    }

    private static void state(Machine x, int p, int... due) {
        for (int i = 0; i < due.length; i += 2) {
            CHECK.due("process(" + p + ", " + due[i] + ")", x.process(p, due[i]), due[i + 1]);
        }
    }

    private static void entering() {
        Bench bench = bench(0);
        Machine x = bench.x;
        x.start(1, 3);
        x.run(2);
        CHECK.due("ENTER of 0 makes 1", x.peek(MONITOR), 1);
        CHECK.due("popped", x.process(0, 3), 0);
        x.kill(0);
        x.poke(MONITOR, 700);
        x.start(1, 3);
        x.run(1);
        int before = bench.next(0);
        bench.clearNotes();
        CHECK.due("one that blocks counts", x.run(500), 1);
        state(x, 0, 0, 2, 1, 3, 3, 1, 4, MONITOR, 5, 0, 6, 0, 7, NONE);
        CHECK.due("at this same instruction", bench.next(0), before);
        CHECK.due("with its stack", x.stack(0, 0), MONITOR);
        CHECK.due("the word stays", x.peek(MONITOR), 700);
        CHECK.due("read alone", x.noted(6), 1);
        CHECK.due("its frame, too", x.noted(4), 1);
        CHECK.due("it does not run", x.running(), NONE);
        CHECK.illegalState("resume of a BLOCKED one", () -> x.resume(0));
        x.start(3, 0);
        x.run(2);
        state(x, 0, 0, 1, 4, NONE);
        CHECK.due("EXIT makes 0", x.peek(MONITOR), 0);
        x.run(1);
        CHECK.due("and it enters", x.peek(MONITOR), 1);

        Bench high = bench(0);
        high.x.poke(MONITOR, 1);
        high.procedure(5, 0, 2, 22, 64, 40, Bench.HALT);
        high.x.start(11, 0);
        high.x.run(2);
        CHECK.due("BLOCKED modulo 4096", high.x.process(0, 4), MONITOR);
        high.x.start(3, 0);
        high.x.run(2);
        CHECK.due("and READY by that", high.x.process(0, 0), 1);
    }

    private static void exitOrder() {
        Machine x = bench(0).x;
        x.poke(MONITOR, 1);
        int[] priorities = {2, 5, 5, 1};
        for (int priority : priorities) {
            x.start(1, priority);
            x.run(2);
        }
        int[] order = {1, 2, 0, 3};
        for (int first : order) {
            int other = x.start(3, 7);
            x.run(3);
            CHECK.due("READY is the first one", x.process(first, 0), 1);
            CHECK.due("it runs", x.running(), first);
            x.kill(first);
            x.kill(other);
            x.poke(MONITOR, 1);
        }
        // one that was BLOCKED before is behind, if it is BLOCKED anew
        Machine y = bench(0).x;
        y.poke(MONITOR, 1);
        y.start(1, 5);
        y.start(1, 5);
        y.run(4);
        y.start(3, 0);
        y.run(2);
        CHECK.due("the first", y.process(0, 0), 1);
        y.poke(MONITOR, 1);
        y.run(1);
        CHECK.due("BLOCKED anew", y.process(0, 0), 2);
        y.kill(2);
        y.start(3, 0);
        y.run(2);
        CHECK.due("now the other", y.process(1, 0), 1);
        CHECK.due("not it", y.process(0, 0), 2);
        CHECK.due("of another monitor none", otherMonitor(), 2);
    }

    private static int otherMonitor() {
        Bench bench = bench(0);
        bench.procedure(5, 0, 2, 6, 70, 41, Bench.HALT);
        bench.x.poke(MONITOR, 1);
        bench.x.start(1, 5);
        bench.x.run(2);
        bench.x.start(11, 5);
        bench.x.run(2);
        return bench.x.process(0, 0);
    }

    private static void exitAtEnd() {
        Bench bench = bench(0);
        Machine x = bench.x;
        x.poke(MONITOR, 1);
        x.start(1, 5);
        x.run(2);
        x.start(3, 5);
        x.run(1);
        x.protect(4, true);
        x.run(1);
        CHECK.due("the next byte cannot be written", bench.fault(1), 2);
        CHECK.due("so the word is as before", x.peek(MONITOR), 1);
        CHECK.due("and nobody is READY", x.process(0, 0), 2);
        x.protect(4, false);
        x.protect(6, true);
        x.resume(1);
        x.run(1);
        CHECK.due("EXIT of a protected word", bench.fault(1), 2);
        x.protect(6, false);
        x.resume(1);
        x.run(1);
        CHECK.due("then it can", x.process(0, 0), 1);
        CHECK.due("behind the one that runs", x.process(0, 7), 1);
    }

    private static void waiting() {
        Bench bench = bench(300);
        Machine x = bench.x;
        x.poke(MONITOR, 1);
        x.poke(CONDITION, 4);
        x.start(1, 2);
        x.run(2);
        x.start(5, 5);
        CHECK.due("run", x.run(4), 4);
        state(x, 1, 0, 3, 1, 5, 3, 0, 4, CONDITION, 5, 300, 6, 0, 7, NONE);
        CHECK.due("EXIT", x.peek(MONITOR), 0);
        CHECK.due("the first one BLOCKED is READY", x.process(0, 0), 1);
        CHECK.due("the word stays", x.peek(CONDITION), 4);
        CHECK.illegalState("resume of a WAITING one", () -> x.resume(1));
        int next = bench.next(1);
        x.start(7, 7);
        x.run(2);
        state(x, 1, 0, 1, 4, NONE, 5, 0, 7, 2);
        CHECK.due("behind the WAIT", bench.next(1), next);
        x.kill(2);
        x.run(1);
        CHECK.due("goes on", bench.fault(1), 9);
        Machine y = bench(0).x;
        y.start(5, 0);
        y.run(4);
        y.kill(0);
        state(y, 0, 0, 0, 4, NONE, 5, 0);
        CHECK.due("a killed one WAITS no more", y.interrupt(CONDITION), NONE);
    }

    private static void waitFinds() {
        Bench bench = bench(300);
        Machine x = bench.x;
        x.poke(CONDITION, 7);
        x.poke(MONITOR, 9);
        x.start(5, 5);
        x.start(5, 5);
        x.run(4);
        state(x, 0, 0, 1, 4, NONE, 5, 0, 7, 0);
        CHECK.due("one less", x.peek(CONDITION), 6);
        CHECK.due("and EXIT", x.peek(MONITOR), 0);

        // the monitor is the condition: the word is 0 when it is looked at
        Bench same = new Bench().frames(0, 1);
        same.procedure(0, 0, 2, 6, 64, 2, 6, 64, 1, 0, 42, Bench.HALT);
        same.x.poke(MONITOR, 1);
        same.x.start(1, 0);
        same.x.run(500);
        CHECK.due("WAITING", same.x.process(0, 0), 3);
        CHECK.due("no TIMEOUT", same.x.tick(100000), 0);
        CHECK.due("still", same.x.process(0, 0), 3);
    }

    private static void waitOrder() {
        Bench bench = bench(1);
        Machine x = bench.x;
        bench.procedure(5, 0, 2, 6, 64, 2, 12, 0, 1, 0, 42, Bench.HALT);
        x.poke(MONITOR, 1);
        x.start(1, 2);
        x.run(2);
        x.start(11, 5);
        x.run(3);
        bench.clearNotes();
        x.run(1);
        CHECK.due("no page for the condition", bench.fault(1), 1);
        CHECK.due("the monitor is as before", x.peek(MONITOR), 1);
        CHECK.due("but was written", x.noted(6), 3);
        CHECK.due("its stack", x.process(1, 3), 3);
        CHECK.due("nobody is READY", x.process(0, 0), 2);
        // an even word is only read: its page may be protected
        x.map(12, 11);
        x.protect(12, true);
        x.resume(1);
        x.run(1);
        CHECK.due("WAITING at a protected word", x.process(1, 0), 3);
        CHECK.due("which was read", x.noted(11), 1);
        x.kill(1);
        x.poke(12 * 256, 1);
        x.poke(MONITOR, 1);
        x.start(11, 5);
        x.run(4);
        CHECK.due("an odd one is written", bench.fault(1), 2);
        CHECK.due("and the monitor is as before", x.peek(MONITOR), 1);
    }

    private static Bench waiters(int timeout, int... priorities) {
        Bench bench = bench(timeout);
        for (int priority : priorities) {
            bench.x.start(5, priority);
            bench.x.run(4);
        }
        return bench;
    }

    private static void notifying() {
        Machine x = waiters(0, 1, 4, 4).x;
        int[] order = {1, 2, 0};
        for (int first : order) {
            int other = x.start(7, 7);
            x.run(2);
            CHECK.due("the first one is READY", x.process(first, 0), 1);
            CHECK.due("behind the one that runs", x.process(first, 7), 1);
            x.kill(other);
            x.kill(first);
        }
        x.start(7, 7);
        x.run(2);
        CHECK.due("nobody WAITS: nothing", x.peek(CONDITION), 0);
        Bench gone = waiters(0, 1);
        gone.procedure(5, 0, 2, 12, 0, 43, 2, 22, 65, 43, Bench.HALT);
        gone.x.start(11, 7);
        gone.x.run(2);
        CHECK.due("the word is not read", gone.fault(1), 0);
        CHECK.due("another condition", gone.x.process(0, 0), 3);
        gone.x.run(2);
        CHECK.due("modulo 4096", gone.x.process(0, 0), 1);
    }

    private static void notifyingAll() {
        Machine x = waiters(50, 1, 4, 2, 4).x;
        x.poke(MONITOR, 1);
        x.start(1, 7);
        x.run(2);
        x.start(9, 7);
        x.run(2);
        CHECK.due("the one that runs", x.process(5, 7), 0);
        CHECK.due("first", x.process(1, 7), 1);
        CHECK.due("second", x.process(3, 7), 2);
        CHECK.due("third", x.process(2, 7), 3);
        CHECK.due("fourth", x.process(0, 7), 4);
        CHECK.due("one BLOCKED is not", x.process(4, 0), 2);
        CHECK.due("no TIMEOUT is left", x.tick(100), 0);
    }

    private static void interrupts() {
        Machine x = waiters(0, 1, 4, 4).x;
        x.noted(6);
        CHECK.due("the first", x.interrupt(CONDITION), 1);
        CHECK.due("is READY", x.process(1, 0), 1);
        CHECK.due("the second", x.interrupt(CONDITION), 2);
        CHECK.due("the third", x.interrupt(CONDITION), 0);
        CHECK.due("in that order", x.process(0, 7), 2);
        CHECK.due("the word stays", x.peek(CONDITION), 0);
        CHECK.due("nothing is noted", x.noted(6), 0);
        CHECK.due("nobody", x.interrupt(CONDITION), NONE);
        CHECK.due("the word is odd", x.peek(CONDITION), 1);
        Machine y = waiters(0, 1).x;
        y.map(6, NONE);
        CHECK.due("one that WAITS, without its page", y.interrupt(CONDITION), 0);
    }

    private static void interruptWord() {
        Machine x = new Machine();
        x.poke(300, 65534);
        CHECK.due("interrupt", x.interrupt(300), NONE);
        CHECK.due("odd now", x.peek(300), 65535);
        CHECK.due("noted", x.noted(1), 3);
        x.interrupt(300);
        CHECK.due("stays", x.peek(300), 65535);
        CHECK.due("not noted", x.noted(1), 0);
        x.protect(1, true);
        CHECK.due("protected", x.interrupt(301), NONE);
        CHECK.due("stays even", x.peek(301), 0);
        CHECK.due("not noted", x.noted(1), 0);
        CHECK.due("no page", x.interrupt(4095), NONE);
        CHECK.outOfBounds("interrupt(-1)", () -> x.interrupt(-1));
        CHECK.outOfBounds("interrupt(4096)", () -> x.interrupt(4096));
    }

    private static void ticks() {
        Machine x = waiters(5, 1).x;
        CHECK.due("tick(0)", x.tick(0), 0);
        CHECK.due("TIMEOUT", x.process(0, 5), 5);
        CHECK.due("tick(4)", x.tick(4), 0);
        CHECK.due("one is left", x.process(0, 5), 1);
        CHECK.due("WAITING", x.process(0, 0), 3);
        CHECK.due("tick(1)", x.tick(1), 1);
        state(x, 0, 0, 1, 4, NONE, 5, 0, 7, 0);
        CHECK.due("tick(100000)", x.tick(100000), 0);
        CHECK.illegalArgument("tick(100001)", () -> x.tick(100001));
        CHECK.illegalArgument("tick(-1)", () -> x.tick(-1));
        Machine y = waiters(65535, 1).x;
        CHECK.due("tick(65534)", y.tick(65534), 0);
        CHECK.due("one is left", y.process(0, 5), 1);
        CHECK.due("tick(2)", y.tick(2), 1);
        Machine z = waiters(0, 1).x;
        CHECK.due("no TIMEOUT", z.tick(100000), 0);
        CHECK.due("no TIMEOUT", z.process(0, 5), 0);
    }

    private static void ticksApart() {
        int[] timeouts = {50, 20, 90, 20, 70, 200};
        for (int step = 1; step <= 250; step += step < 10 ? 1 : 13) {
            Bench bench = new Bench().frames(0, 6);
            Machine x = bench.x;
            for (int p = 0; p < 6; p++) {
                bench.procedure(p, 0, 2, 6, 64, 2, 6, 65, 1, timeouts[p], 42, Bench.HALT);
                x.start(1 + 2 * p, p);
                x.run(4);
            }
            for (int now = step; now <= 250; now += step) {
                int ended = 0;
                for (int timeout : timeouts) {
                    ended += timeout <= now && timeout > now - step ? 1 : 0;
                }
                CHECK.due("by steps of " + step + ", at " + now, x.tick(step), ended);
                for (int p = 0; p < 6; p++) {
                    CHECK.due("TIMEOUT", x.view().process(p, 5), Math.max(0, timeouts[p] - now));
                    CHECK.due("state", x.view().process(p, 0), timeouts[p] <= now ? 1 : 3);
                }
            }
            x.tick(250);
            int[] places = {2, 0, 4, 1, 3, 5};
            for (int p = 0; p < 6; p++) {
                CHECK.due("place", x.process(p, 7), places[p]);
            }
        }
    }

    private static void ticksTogether() {
        Bench bench = waiters(7, 1, 6);
        bench.x.tick(3);
        for (int priority = 2; priority < 5; priority++) {
            bench.x.start(5, priority);
            bench.x.run(4);
        }
        bench.x.interrupt(CONDITION);
        CHECK.due("the one with priority 6 is READY", bench.x.running(), 1);
        CHECK.due("seven ticks end all", bench.x.tick(7), 4);
        int[] places = {1, 0, 2, 3, 4};
        for (int p = 0; p < 5; p++) {
            CHECK.due("place of " + p, bench.x.process(p, 7), places[p]);
        }
        Machine y = waiters(7, 1).x;
        y.tick(3);
        y.start(5, 1);
        y.run(4);
        y.interrupt(CONDITION);
        y.run(1);
        y.kill(0);
        y.start(5, 1);
        y.run(4);
        y.tick(2);
        y.kill(0);
        y.start(5, 1);
        y.run(4);
        CHECK.due("process 1 ends first, then 0", y.tick(7), 2);
        CHECK.due("the place of 1", y.process(1, 7), 0);
        CHECK.due("the place of 0", y.process(0, 7), 1);
        Machine z = waiters(7, 1, 1).x;
        CHECK.due("six leave one each", z.tick(6), 0);
        CHECK.due("TIMEOUT of 0", z.process(0, 5), 1);
        CHECK.due("TIMEOUT of 1", z.process(1, 5), 1);
    }
}
