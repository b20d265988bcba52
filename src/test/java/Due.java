/** Counts the answers of one test program that are not the ones that are due. */
final class Due {
    private final String about;
    private int asked = 0;
    private int wrong = 0;

    Due(String about) {
        this.about = about;
    }

    void is(String call, long got, long want) {
        asked++;
        if (got != want) {
            wrong++;
            System.out.println(about + ": " + call + " answered " + shown(got) + ", due is " + shown(want));
        }
    }

    void holds(String what, boolean so) {
        asked++;
        if (!so) {
            wrong++;
            System.out.println(about + ": not so: " + what);
        }
    }

    void refusesArgument(String call, Runnable run) {
        throwing(call, IllegalArgumentException.class, run);
    }

    void refusesState(String call, Runnable run) {
        throwing(call, IllegalStateException.class, run);
    }

    private void throwing(String call, Class<? extends RuntimeException> due, Runnable run) {
        Class<?> got = null;
        try {
            run.run();
        } catch (RuntimeException e) {
            got = e.getClass();
        }
        holds(call + " throws " + due.getSimpleName() + ", it threw " + got, got == due);
    }

    /** Ends the program with exit code 1 if an answer was wrong or none was asked for. */
    void end() {
        System.out.println(about + ": " + asked + " asked, " + wrong + " wrong");
        if (wrong != 0 || asked == 0) {
            System.exit(1);
        }
    }

    private static String shown(long value) {
        return value + " (hexadecimal " + Long.toHexString(value) + ")";
    }
}
