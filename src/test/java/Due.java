/** Compares answers with those that are due, and counts the wrong ones of one test. */
final class Due {
    private static int wrong = 0;
    private static String asked = "";

    private Due() {
    }

    /** Names the sentence of the document that the next calls are held against. */
    static void sentence(String words) {
        asked = "[" + words + "] ";
    }

    static void is(String call, long got, long want) {
        if (got != want) {
            tell(call + " answered " + got + ", due is " + want);
        }
    }

    static void is(String call, boolean got, boolean want) {
        if (got != want) {
            tell(call + " answered " + got + ", due is " + want);
        }
    }

    static void throwsIndex(String call, Runnable run) {
        raises(call, run, IndexOutOfBoundsException.class);
    }

    static void throwsArgument(String call, Runnable run) {
        raises(call, run, IllegalArgumentException.class);
    }

    static void throwsState(String call, Runnable run) {
        raises(call, run, IllegalStateException.class);
    }

    // A subclass would do for a caller, but only the machine throws one, and it never should.
    private static void raises(String call, Runnable run, Class<? extends RuntimeException> want) {
        Class<?> got = null;
        try {
            run.run();
        } catch (RuntimeException e) {
            got = e.getClass();
        }
        if (got != want) {
            tell(call + " threw " + got + ", due is " + want);
        }
    }

    private static void tell(String fault) {
        wrong++;
        System.out.println(asked + fault);
    }

    static void end() {
        if (wrong != 0) {
            System.out.println(wrong + " answers are not as due");
            System.exit(1);
        }
    }
}
