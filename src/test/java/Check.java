/** Counts the answers that are not the ones due, for one test class. */
final class Check {
    private final String name;
    private int asked;
    private int wrong;

    Check(String name) {
        this.name = name;
    }

    void due(String what, long got, long want) {
        asked++;
        if (got != want) {
            wrong++;
            System.out.println(name + ": " + what + " answered " + got + ", due is " + want);
        }
    }

    /** A call that must throw exactly this exception. */
    void thrown(String what, Class<? extends RuntimeException> want, Runnable call) {
        asked++;
        Class<?> got = null;
        try {
            call.run();
        } catch (RuntimeException e) {
            got = e.getClass();
        }
        if (got != want) {
            wrong++;
            System.out.println(name + ": " + what + " threw " + got + ", due is " + want);
        }
    }

    void outOfBounds(String what, Runnable call) {
        thrown(what, IndexOutOfBoundsException.class, call);
    }

    void illegalState(String what, Runnable call) {
        thrown(what, IllegalStateException.class, call);
    }

    void illegalArgument(String what, Runnable call) {
        thrown(what, IllegalArgumentException.class, call);
    }

    /** Ends the program, with exit code 1 if an answer was wrong. */
    void end() {
        System.out.println(name + ": " + asked + " answers, " + wrong + " of them wrong");
        if (wrong != 0 || asked == 0) {
            System.exit(1);
        }
    }
}
