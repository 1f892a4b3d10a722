/** What the tests share: counting of answers that are not as due. */
final class Checks {
    interface Call {
        long answer();
    }

    interface Act {
        void run();
    }

    interface Test {
        void run() throws Exception;
    }

    private int made = 0;
    private int wrong = 0;
    private int sentences = 0;
    private String sentence = "";

    /**
     * A test of words of the document, and where they stand: a promise's number or the name of a
     * term. It is a fault of the test if it checks nothing; if it throws, others go on.
     */
    void says(String where, String words, Test test) {
        sentences++;
        sentence = where + " says \"" + words + "\": ";
        int madeBefore = made;
        try {
            test.run();
        } catch (Exception e) {
            fault("threw " + e);
        }
        if (made == madeBefore) {
            fault("nothing was checked");
        }
        sentence = "";
    }

    private void fault(String what) {
        made++;
        wrong++;
        System.out.println(sentence + what);
    }

    void equal(String what, long got, long due) {
        equal(what, Long.toString(got), Long.toString(due));
    }

    void equal(String what, String got, String due) {
        if (got.equals(due)) {
            made++;
        } else {
            fault(what + " answered " + got + ", due is " + due);
        }
    }

    void holds(String what, boolean got) {
        equal(what, Boolean.toString(got), "true");
    }

    /** The class must be the very one: IndexOutOfBounds from an array would be a class of its own. */
    void fails(String what, Class<? extends RuntimeException> due, Act act) {
        equal(what, outcome(() -> {
            act.run();
            return 0;
        }), "throws." + due.getSimpleName());
    }

    static String outcome(Call call) {
        try {
            return Long.toString(call.answer());
        } catch (RuntimeException e) {
            return "throws." + e.getClass().getSimpleName();
        }
    }

    /**
     * Everything that can be seen of an object, so that two states can be held against each other.
     * Its calls go beyond the 512 that the document promises: the program does not count them.
     */
    static String sight(SolidFolder x) {
        StringBuilder text = new StringBuilder();
        for (int k = 0; k < x.files(); k++) {
            text.append((char) x.about(k, false)).append(x.about(k, true)).append('(');
            for (int i = 0; i < x.about(k, true); i++) {
                text.append(String.format("%02x", x.at(k, i)));
            }
            text.append(')');
        }
        return text.append(" / ").append(archive(x)).toString();
    }

    static String archive(SolidFolder x) {
        StringBuilder text = new StringBuilder();
        for (int k = 0; k < x.length(); k++) {
            text.append(String.format("%02x", x.byteAt(k)));
        }
        return text.toString();
    }

    /** By as few calls as can be. */
    static SolidFolder withArchive(String hex) {
        SolidFolder x = new SolidFolder();
        for (int k = 0; k < hex.length(); k += 16) {
            String some = hex.substring(k, Math.min(k + 16, hex.length()));
            x.put(Long.parseUnsignedLong(some, 16), some.length() / 2);
        }
        return x;
    }

    void end() {
        if (sentences > 0) {
            System.out.println(sentences + " sentences");
        }
        System.out.println(made - wrong + " of " + made + " answers are as due");
        if (wrong != 0) {
            System.exit(1);
        }
    }
}
