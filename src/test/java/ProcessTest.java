/** Promises 8 to 10 and 13 to 15: run, resume, kill, running, process and stack. */
public final class ProcessTest {
    private static final int NONE = FrameProcessor.NONE;
    private static final Check CHECK = new Check("ProcessTest");

    public static void main(String[] args) {
        runs();
        whoRuns();
        yields();
        stacksApart();
        resumes();
        kills();
        asking();
        CHECK.end();
    }

    private static Bench looping() {
        Bench bench = new Bench().frames(0, 8);
        bench.procedure(0, 0, 0, 20, -1);
        bench.procedure(1, 0, 1, 5, Bench.HALT);
        bench.procedure(2, 0, 45, 20, -1);
        return bench;
    }

    private static void runs() {
        Machine x = looping().x;
        x.start(1, 0);
        CHECK.due("run(0)", x.run(0), 0);
        CHECK.due("run(500)", x.run(500), 500);
        CHECK.illegalArgument("run(501)", () -> x.run(501));
        CHECK.illegalArgument("run(-1)", () -> x.run(-1));
        CHECK.illegalArgument("run(MAX)", () -> x.run(Integer.MAX_VALUE));
        x.start(3, 1);
        CHECK.due("those that FAULT count, and others go on", x.run(9), 9);
        CHECK.due("STOPPED", x.process(1, 0), 4);
        x.kill(0);
        CHECK.due("none is READY", x.run(500), 0);
        x.resume(1);
        CHECK.due("one that FAULTs", x.run(500), 1);
    }

    private static void whoRuns() {
        Machine x = looping().x;
        x.start(1, 3);
        x.start(1, 3);
        CHECK.due("the first of equal ones", x.running(), 0);
        x.run(10);
        CHECK.due("which keeps its place", x.running(), 0);
        x.start(1, 7);
        CHECK.due("the highest priority", x.running(), 2);
        x.start(1, 0);
        CHECK.due("not the lowest", x.running(), 2);
        for (int i = 0; i < 4; i++) {
            CHECK.due("places do not follow priorities", x.process(i, 7), i);
        }
        x.kill(0);
        CHECK.due("places move up", x.process(1, 7), 0);
        CHECK.due("places move up", x.process(3, 7), 2);
        CHECK.due("none for a FREE one", x.process(0, 7), NONE);
        x.kill(2);
        CHECK.due("the next", x.running(), 1);
        x.kill(1);
        x.kill(3);
        CHECK.due("none", x.running(), NONE);
    }

    private static void yields() {
        Machine x = looping().x;
        x.start(5, 3);
        x.start(5, 3);
        x.start(1, 2);
        x.run(1);
        CHECK.due("behind the others", x.process(0, 7), 2);
        CHECK.due("also those of lower priorities", x.process(2, 7), 1);
        CHECK.due("the other runs", x.running(), 1);
        x.run(1);
        CHECK.due("in turn", x.running(), 0);
        x.run(1);
        CHECK.due("a jump does not yield", x.running(), 0);
        x.kill(1);
        x.run(1);
        CHECK.due("nor does it let a lower one run", x.running(), 0);
    }

    private static void stacksApart() {
        Bench bench = new Bench().frames(0, 2);
        Machine x = bench.x;
        bench.procedure(0, 0, 1, 1, 1, 2, 1, 3, 45, 9, 45, 9, 45, Bench.HALT);
        bench.procedure(1, 0, 1, 10, 1, 20, 1, 30, 45, 10, 45, 10, 45, Bench.HALT);
        x.start(1, 0);
        x.start(3, 0);
        CHECK.due("run", x.run(12), 12);
        CHECK.due("1 and 2 + 3", x.stack(0, 0) * 100 + x.stack(0, 1), 501);
        CHECK.due("10 and 20 - 30", x.stack(1, 0) * 100 + x.stack(1, 1), 6552610);
        x.run(500);
        CHECK.due("1 + 2 + 3", x.stack(0, 0), 6);
        CHECK.due("10 - (20 - 30)", x.stack(1, 0), 20);
    }

    private static void resumes() {
        Bench bench = looping();
        Machine x = bench.x;
        x.start(3, 3);
        CHECK.illegalState("resume of a READY one", () -> x.resume(0));
        x.run(2);
        CHECK.due("STOPPED", x.process(0, 0), 4);
        CHECK.due("no place", x.process(0, 7), NONE);
        x.start(1, 3);
        x.resume(0);
        CHECK.due("READY", x.process(0, 0), 1);
        CHECK.due("no FAULT", x.process(0, 6), 0);
        CHECK.due("behind the other", x.process(0, 7), 1);
        CHECK.due("its stack", x.stack(0, 0), 5);
        x.kill(1);
        CHECK.due("at the same instruction", x.run(5), 1);
        CHECK.due("FAULT again", x.process(0, 6), 9);
        CHECK.illegalState("resume of a FREE one", () -> x.resume(5));
        CHECK.outOfBounds("resume(-1)", () -> x.resume(-1));
        CHECK.outOfBounds("resume(6)", () -> x.resume(6));
    }

    private static void kills() {
        Bench bench = looping();
        Machine x = bench.x;
        x.start(3, 3);
        x.run(2);
        int frame = x.process(0, 2);
        x.kill(0);
        int[] free = {0, 0, 0, 0, NONE, 0, 0, NONE};
        for (int what = 0; what < 8; what++) {
            CHECK.due("killed: " + what, x.process(0, what), free[what]);
        }
        CHECK.due("its stack", x.stack(0, 0), NONE);
        CHECK.due("its frames stay", x.free(0), 7);
        CHECK.due("as they are", x.peek(frame + 2), 71);
        CHECK.illegalState("kill of a FREE one", () -> x.kill(0));
        CHECK.outOfBounds("kill(-1)", () -> x.kill(-1));
        CHECK.outOfBounds("kill(6)", () -> x.kill(6));
    }

    private static void asking() {
        Machine x = looping().x;
        x.start(3, 6);
        x.run(2);
        int[] due = {4, 6, x.process(0, 2), 1, NONE, 0, 9, NONE};
        for (int what = 0; what < 8; what++) {
            CHECK.due("process(0, " + what + ")", x.process(0, what), due[what]);
        }
        CHECK.due("process(0, 8)", x.process(0, 8), NONE);
        CHECK.due("process(0, -1)", x.process(0, -1), NONE);
        CHECK.due("process(6, 0)", x.process(6, 0), NONE);
        CHECK.due("process(-1, 1)", x.process(-1, 1), NONE);
        CHECK.due("stack(0, 1)", x.stack(0, 1), NONE);
        CHECK.due("stack(0, -1)", x.stack(0, -1), NONE);
        CHECK.due("stack(6, 0)", x.stack(6, 0), NONE);
        CHECK.due("stack(-1, 0)", x.stack(-1, 0), NONE);
        CHECK.due("stack(0, MAX)", x.stack(0, Integer.MAX_VALUE), NONE);
        CHECK.due("stack(0, MIN)", x.stack(0, Integer.MIN_VALUE), NONE);
    }
}
