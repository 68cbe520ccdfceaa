/** Counts the answers that are not the ones due, for one test class. */
final class Check {
    private final String name;
    private int asked;
    private int wrong;

    Check(String name) {
        this.name = name;
    }

    void due(String what, long got, long want) {
        asked++;
        if (got != want) {
            wrong++;
            System.out.println(name + ": " + what + " answered " + got + ", due is " + want);
        }
    }

    /** Two pictures of a machine; told is what stands about the first place where they are not the same. */
    void same(String what, String got, String want) {
        asked++;
        if (!got.equals(want)) {
            wrong++;
            int i = 0;
            while (i < got.length() && i < want.length() && got.charAt(i) == want.charAt(i)) {
                i++;
            }
            System.out.println(name + ": " + what + ": is\n  " + about(got, i) + "\n  due is\n  " + about(want, i));
        }
    }

    private static String about(String text, int i) {
        int from = text.lastIndexOf('\n', i - 1) + 1;
        String head = text.substring(from, Math.min(i, from + 12));
        return head + " .. " + text.substring(Math.max(from, i - 20), Math.min(text.length(), i + 20));
    }

    /** A call that must throw exactly this exception. */
    void thrown(String what, Class<? extends RuntimeException> want, Runnable call) {
        asked++;
        Class<?> got = null;
        try {
            call.run();
        } catch (RuntimeException e) {
            got = e.getClass();
        }
        if (got != want) {
            wrong++;
            System.out.println(name + ": " + what + " threw " + got + ", due is " + want);
        }
    }

    void outOfBounds(String what, Runnable call) {
        thrown(what, IndexOutOfBoundsException.class, call);
    }

    void illegalState(String what, Runnable call) {
        thrown(what, IllegalStateException.class, call);
    }

    void illegalArgument(String what, Runnable call) {
        thrown(what, IllegalArgumentException.class, call);
    }

    /** A call that throws this exception, and leaves all as before. */
    void refused(String what, Class<? extends RuntimeException> want, Machine x, Runnable call) {
        String before = x.picture();
        thrown(what, want, call);
        same(what + " is refused: all is as before", x.picture(), before);
    }

    /** The next instruction, one of process 0, FAULTs so: all but notes is as before, and it is STOPPED there. */
    void faults(String what, Bench bench, int fault) {
        String before = bench.x.pictureBut(0);
        due(what + ": counts", bench.x.run(1), 1);
        due(what + ": FAULT", bench.x.process(0, 6), fault);
        due(what + ": STOPPED", bench.x.process(0, 0), 4);
        same(what + ": all is as before", bench.x.pictureBut(0), before);
    }

    /** The next instruction, one of process 0, is done; then so many are on its stack, and that on top. */
    void leaves(String what, Bench bench, int depth, int top) {
        due(what + ": counts", bench.x.run(1), 1);
        due(what + ": FAULT", bench.x.process(0, 6), 0);
        due(what + ": how many", bench.x.process(0, 3), depth);
        due(what, bench.x.stack(0, 0), top);
    }

    /** Ends the program, with exit code 1 if an answer was wrong. */
    void end() {
        System.out.println(name + ": " + asked + " answers, " + wrong + " of them wrong");
        if (wrong != 0 || asked == 0) {
            System.exit(1);
        }
    }
}
