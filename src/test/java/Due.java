/** Runs tests, each of a sentence of the document, and counts the answers that are not the ones that are due. */
final class Due {
    private final String about;
    private String words = "";
    private int sentences = 0;
    private int asked = 0;
    private int wrong = 0;

    Due(String about) {
        this.about = about;
    }

    /** One test of one sentence, told in the document's words; a test that asks nothing is wrong itself. */
    void sentence(String documentWords, Runnable test) {
        words = documentWords;
        sentences++;
        int before = asked;
        try {
            test.run();
        } catch (RuntimeException e) {
            tellWrong("the test itself ended with " + e);
        }
        if (asked == before) {
            tellWrong("nothing was asked");
        }
        words = "";
    }

    void is(String call, long got, long want) {
        asked++;
        if (got != want) {
            tellWrong(call + " answered " + shown(got) + ", due is " + shown(want));
        }
    }

    void holds(String what, boolean so) {
        asked++;
        if (!so) {
            tellWrong("not so: " + what);
        }
    }

    void refusesArgument(String call, Runnable run) {
        throwing(call, IllegalArgumentException.class, run);
    }

    void refusesState(String call, Runnable run) {
        throwing(call, IllegalStateException.class, run);
    }

    void throwsNothing(String call, Runnable run) {
        throwing(call, null, run);
    }

    private void throwing(String call, Class<? extends RuntimeException> due, Runnable run) {
        Class<?> got = null;
        try {
            run.run();
        } catch (RuntimeException e) {
            got = e.getClass();
        }
        holds(call + " throws " + shown(due) + ", it threw " + shown(got), got == due);
    }

    /** Ends the program with exit code 1 if an answer was wrong or none was asked for. */
    void end() {
        System.out.println(about + ": " + sentences + " sentences, " + asked + " asked, " + wrong + " wrong");
        if (wrong != 0 || asked == 0) {
            System.exit(1);
        }
    }

    private void tellWrong(String what) {
        wrong++;
        System.out.println(about + ": " + what + (words.isEmpty() ? "" : " [" + words + "]"));
    }

    private static String shown(Class<?> thrown) {
        return thrown == null ? "nothing" : thrown.getSimpleName();
    }

    private static String shown(long value) {
        return value + " (hexadecimal " + Long.toHexString(value) + ")";
    }
}
