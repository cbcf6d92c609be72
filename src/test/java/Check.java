/** Counts the answers that are not as due and prints them; what all tests of the project share. */
final class Check {
    interface Call {
        double run();
    }

    private final String name;
    private String sentence = "";
    private int tests;
    private int made;
    private int wrong;

    Check(String name) {
        this.name = name;
    }

    /** One test: what a sentence of the document asks for; an exception that no answer is due to ends it as wrong. */
    void test(String says, Runnable answers) {
        sentence = says + ": ";
        tests++;
        int before = made;
        try {
            answers.run();
        } catch (RuntimeException thrown) {
            wrong("was ended by " + thrown.getClass().getName());
        }
        if (made == before) {
            wrong("asked for no answer");
        }
        sentence = "";
    }

    /** The call has to return this. */
    void is(String call, double due, Call made) {
        String got;
        try {
            double answer = made.run();
            if (answer == due) {
                right();
                return;
            }
            got = "answered " + answer;
        } catch (RuntimeException thrown) {
            got = "threw " + thrown.getClass().getName();
        }
        wrong(call + " " + got + ", due is " + due);
    }

    /** What was read has to be this text. */
    void reads(String what, String due, String got) {
        if (got.equals(due)) {
            right();
        } else {
            wrong(what + " is '" + got + "', due is '" + due + "'");
        }
    }

    /** The call has to throw just this class, none above or below it. */
    void fails(String call, Class<? extends RuntimeException> due, Call made) {
        String got;
        try {
            got = "answered " + made.run();
        } catch (RuntimeException thrown) {
            if (thrown.getClass() == due) {
                right();
                return;
            }
            got = "threw " + thrown.getClass().getName();
        }
        wrong(call + " " + got + ", due is " + due.getSimpleName());
    }

    /** Says how the test went, and ends the program with 1 if an answer was not as due. */
    void end() {
        String count = tests == 0 ? "" : tests + " tests, ";
        System.out.println(name + ": " + count + made + " answers, " + wrong + " not as due");
        if (wrong != 0 || made == 0) {
            System.exit(1);
        }
    }

    private void right() {
        made++;
    }

    private void wrong(String what) {
        made++;
        wrong++;
        System.out.println(name + ": " + sentence + what);
    }

    // ---- what most tests need

    static final Class<IndexOutOfBoundsException> INDEX = IndexOutOfBoundsException.class;
    static final Class<IllegalArgumentException> ARGUMENT = IllegalArgumentException.class;
    static final Class<IllegalStateException> STATE = IllegalStateException.class;
    static final Class<java.util.NoSuchElementException> MISSING = java.util.NoSuchElementException.class;
    static final Class<UnsupportedOperationException> UNSUPPORTED = UnsupportedOperationException.class;

    /** The values next to a range, and those that are farthest from it. */
    static int[] outside(int least, int greatest) {
        return new int[] {least - 1, greatest + 1, Integer.MIN_VALUE, Integer.MAX_VALUE};
    }

    static void feed(FreightRater rater, String text) {
        for (int i = 0; i < text.length(); i++) {
            rater.feed(text.charAt(i));
        }
    }

    static int amend(FreightRater rater, int version, String text) {
        feed(rater, text);
        return rater.amend(version);
    }

    static String paper(FreightRater rater, int length) {
        StringBuilder text = new StringBuilder();
        for (int i = 0; i < length; i++) {
            text.append(rater.paper(i));
        }
        return text.toString();
    }

    /** A rater with one empty version from day 0 that has been amended by these texts. */
    static FreightRater rater(String... texts) {
        FreightRater rater = new FreightRater();
        rater.makeVersion(0, -1);
        for (String text : texts) {
            amend(rater, 0, text);
        }
        return rater;
    }

    /** Adds a shipment to place 0 on day 0 with a piece of no great size. */
    static int load(FreightRater rater, int weight, int handlings, int customer) {
        int made = rater.ship(0, 0, handlings, customer);
        rater.pack(made, 1, 1, 1, weight);
        return made;
    }
}
