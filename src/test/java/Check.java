/** Counts and prints the answers that are not as due; a test ends with {@link #end()}. */
final class Check {
    static final Class<IllegalArgumentException> ARGUMENT = IllegalArgumentException.class;
    static final Class<IllegalStateException> STATE = IllegalStateException.class;

    private int wrong = 0;
    private String sentence = "";

    /**
     * The document's words that the answers from here on are about; the first are told with each wrong answer.
     * SentencesTest reads these calls in the tests' text, so they are written out there.
     */
    void says(String... quotes) {
        for (String quote : quotes) {
            due("times that the document says '" + quote + "'", Document.times(quote), 1);
        }
        sentence = " (the document: '" + quotes[0] + "')";
    }

    void due(String what, long got, long want) {
        if (got != want) {
            tell(what, got, want);
        }
    }

    void due(String what, boolean got, boolean want) {
        if (got != want) {
            tell(what, got, want);
        }
    }

    void dueText(String what, String got, String want) {
        if (!got.equals(want)) {
            tell(what, got, want);
        }
    }

    void dueDouble(String what, double got, double want) {
        if (Double.compare(got, want) != 0) {
            tell(what, got, want);
        }
    }

    /** The very class is asked for: one that stands above or below it is wrong. */
    void dueThrow(String what, Class<? extends RuntimeException> want, Runnable call) {
        String got = "nothing";
        try {
            call.run();
        } catch (RuntimeException e) {
            got = e.getClass().getName();
        }
        dueText(what.concat(" throws"), got, want.getName());
    }

    void end() {
        System.out.println(wrong == 0 ? "all answers are as due" : wrong + " answers are not as due");
        if (wrong != 0) {
            System.exit(1);
        }
    }

    private void tell(String what, Object got, Object want) {
        wrong++;
        System.out.println(what + " answered " + got + ", due is " + want + sentence);
    }
}
