/**
 * Counts a test's answers and prints those that are not the ones that are due, each with the sentence
 * of the document that it is of. DocumentTest looks whether all these sentences stand in the document.
 */
final class Due {
    static final long NO_AMOUNT = Long.MIN_VALUE;
    private static final long MOST_MILLISECONDS = 300000;

    private final String test;
    private String sentence = "";
    private int sentences = 0;
    private int askedOfSentence = 0;
    private int asked = 0;
    private int wrong = 0;

    Due(String test) {
        this.test = test;
        endLate();
    }

    // A call that does not end would hold up the whole run, so a test that lasts too long fails.
    private void endLate() {
        Thread watch = new Thread(() -> {
            try {
                Thread.sleep(MOST_MILLISECONDS);
            } catch (InterruptedException nobodyDoes) {
                return;
            }
            System.out.println(test + ": has not ended");
            Runtime.getRuntime().halt(1);
        });
        watch.setDaemon(true);
        watch.start();
    }

    /** What is asked from here on is the test of these words of a part of the document. */
    void of(String part, String words) {
        endSentence();
        sentence = part + " \"" + words + "\", ";
        sentences++;
        askedOfSentence = 0;
    }

    void is(String call, long got, long want) {
        is(call, got == want, String.valueOf(got), String.valueOf(want));
    }

    void is(String call, boolean got, boolean want) {
        is(call, got == want, String.valueOf(got), String.valueOf(want));
    }

    void is(String call, String got, String want) {
        is(call, got.equals(want), "[" + got + "]", "[" + want + "]");
    }

    private void is(String call, boolean fits, String got, String want) {
        asked++;
        askedOfSentence++;
        if (!fits) {
            wrong++;
            System.out.println(test + ": " + sentence + call + " answered " + got + ", due is " + want);
        }
    }

    boolean hasWrong() {
        return wrong > 0;
    }

    // A test that asks nothing can't fail, so it is a fault itself.
    private void endSentence() {
        if (sentences > 0 && askedOfSentence == 0) {
            wrong++;
            System.out.println(test + ": " + sentence + "nothing was asked");
        }
    }

    void end() {
        endSentence();
        System.out.println(test + ": " + sentences + " sentences, " + asked + " answers, " + wrong + " not as due");
        if (wrong > 0 || asked == 0) {
            System.exit(1);
        }
    }
}
