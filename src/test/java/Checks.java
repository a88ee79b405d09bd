/** Counts the answers that are not due, and tells each. */
final class Checks {
    private String promise = "";
    private int wrong = 0;

    void promise(String name) {
        promise = name;
    }

    void due(String call, long got, long want) {
        if (got != want) {
            tell(call + " answered " + got + ", due is " + want);
        }
    }

    void due(String call, double got, double want) {
        if (Double.compare(got, want) != 0) {
            tell(call + " answered " + got + ", due is " + want);
        }
    }

    /** The call throws exactly this, and changes nothing that digest() tells. */
    void dueThrow(String call, SewingFrames frames, Class<?> want, Runnable run) {
        long before = frames.digest();
        Class<?> got = null;
        try {
            run.run();
        } catch (RuntimeException e) {
            got = e.getClass();
        }
        if (got != want) {
            tell(call + " threw " + got + ", due is " + want);
        }
        if (frames.digest() != before) {
            tell(call + " threw, but changed something");
        }
    }

    void tell(String what) {
        wrong++;
        System.out.println(promise + ": " + what);
    }

    void end() {
        System.out.println(wrong == 0 ? "all answers are as due" : wrong + " answers are not as due");
        if (wrong != 0) {
            System.exit(1);
        }
    }
}
