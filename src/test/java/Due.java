/** Counts answers against those that are due, prints each wrong one, and ends with exit code 1 for them. */
final class Due {
    private final String name;
    private int right;
    private int wrong;

    Due(String name) {
        this.name = name;
    }

    void is(String call, long got, long want) {
        note(got == want, call + " answered " + got + ", due is " + want);
    }

    void isReal(String call, double got, double want) {
        note(got == want, call + " answered " + got + ", due is " + want);
    }

    void holds(String what, boolean so) {
        note(so, what + " does not hold");
    }

    /** The name of what a call throws, or "nothing". */
    void isThrown(String call, Runnable run, String want) {
        String got = "nothing";
        try {
            run.run();
        } catch (RuntimeException e) {
            got = e.getClass().getSimpleName();
        }
        note(got.equals(want), call + " threw " + got + ", due is " + want);
    }

    boolean anyWrong() {
        return wrong > 0;
    }

    void end() {
        System.out.println(name + ": " + right + " answers as due, " + wrong + " not");
        if (wrong > 0 || right == 0) {
            System.exit(1);
        }
    }

    private void note(boolean so, String otherwise) {
        if (so) {
            right++;
        } else {
            wrong++;
            if (wrong <= 50) {
                System.out.println(name + ": " + otherwise);
            }
        }
    }
}
