/** Counts answers that are not as due and tells where they were asked. */
final class Check {
    private final String test;
    private String sentence = "";
    private int asked;
    private int wrong;

    Check(String test) {
        this.test = test;
    }

    void promise(int number) {
        sentence = "promise " + number;
    }

    /** What the document says, in its words, of that which is asked next. */
    void says(int promise, String words) {
        sentence = "promise " + promise + ", '" + words + "'";
    }

    void saysInSection(int section, String words) {
        sentence = "section " + section + ", '" + words + "'";
    }

    void due(long want, long got) {
        asked++;
        if (want != got) {
            tell("answered " + got + ", due is " + want);
        }
    }

    void due(String want, String got) {
        asked++;
        if (!want.equals(got)) {
            tell("got " + got + ", due is " + want);
        }
    }

    void due(boolean holds, String what) {
        asked++;
        if (!holds) {
            tell("does not hold: " + what);
        }
    }

    /** Asks for a reading that must throw an exception of just this class. */
    void dueThrow(Class<? extends RuntimeException> want, BloodBank x, int rack, int k) {
        asked++;
        try {
            tell("answered " + x.reading(rack, k) + ", due is " + want.getSimpleName());
        } catch (RuntimeException e) {
            if (e.getClass() != want) {
                tell("threw " + e.getClass().getSimpleName() + ", due is " + want.getSimpleName());
            }
        }
    }

    private void tell(String what) {
        wrong++;
        if (wrong > 50) {
            return;
        }
        String where = "";
        for (StackTraceElement call : new Throwable().getStackTrace()) {
            if (call.getClassName().equals(test)) {
                where = where + ":" + call.getLineNumber();
            }
        }
        System.out.println(test + where + ": " + sentence + ": " + what);
    }

    void end() {
        System.out.println(asked + " answers asked, " + wrong + " not as due");
        if (wrong != 0) {
            System.exit(1);
        }
    }
}
