/** Counts answers against those that are due, prints each wrong one, and ends with exit code 1 for them. */
final class Due {
    private static final long MOST_SECONDS = 300;

    private final String name;
    private int right;
    private int wrong;
    private int sentences;
    private String sentence;
    private int answersBefore;

    Due(String name) {
        this.name = name;
        watch();
    }

    /** From here on the answers are about this sentence of the document, which has one at least. */
    void sentence(String words) {
        closeSentence();
        sentence = words;
        sentences++;
        answersBefore = right + wrong;
    }

    void is(String call, long got, long want) {
        note(got == want, call + " answered " + got + ", due is " + want);
    }

    void isReal(String call, double got, double want) {
        note(got == want, call + " answered " + got + ", due is " + want);
    }

    void isText(String call, String got, String want) {
        note(got.equals(want), call + " answered " + got + ", due is " + want);
    }

    void holds(String what, boolean so) {
        note(so, what + " does not hold");
    }

    /** The name of what a call throws, or "nothing". */
    void isThrown(String call, Runnable run, String want) {
        String got = "nothing";
        try {
            run.run();
        } catch (RuntimeException e) {
            got = nameOf(e);
        }
        note(got.equals(want), call + " threw " + got + ", due is " + want);
    }

    /** An exception's name; one that the machine throws, which the class never lets it do, is told as such. */
    static String nameOf(RuntimeException e) {
        String text = "" + e.getMessage();
        boolean byMachine = text.contains("out of bounds for length") || text.contains("by zero") || text.contains("because");
        return e.getClass().getSimpleName() + (byMachine ? " of the machine" : "");
    }

    boolean anyWrong() {
        return wrong > 0;
    }

    void end() {
        closeSentence();
        String told = sentences > 0 ? sentences + " sentences, " : "";
        System.out.println(name + ": " + told + right + " answers as due, " + wrong + " not");
        if (wrong > 0 || right == 0) {
            System.exit(1);
        }
    }

    private void closeSentence() {
        if (sentence != null && right + wrong == answersBefore) {
            note(false, "no call at all");
        }
    }

    private void note(boolean so, String otherwise) {
        if (so) {
            right++;
        } else {
            wrong++;
            if (wrong <= 50) {
                System.out.println(name + ": " + (sentence == null ? "" : "\"" + sentence + "\": ") + otherwise);
            }
        }
    }

    // A call that does not end is a fault too, and must not hold up the tests behind it.
    private void watch() {
        Thread watcher = new Thread(() -> {
            try {
                Thread.sleep(MOST_SECONDS * 1000);
            } catch (InterruptedException e) {
                return;
            }
            System.out.println(name + ": not at its end after " + MOST_SECONDS + " seconds");
            Runtime.getRuntime().halt(1);
        });
        watcher.setDaemon(true);
        watcher.start();
    }
}
