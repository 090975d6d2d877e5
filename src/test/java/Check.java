/** Counts the answers that are not as due; a test ends with exit code 1 if there was one. */
final class Check {
    private final String test;
    private int wrong;

    Check(String test) {
        this.test = test;
    }

    void due(String what, long got, long want) {
        if (got != want) {
            wrong++;
            System.out.println(test + ": " + what + " answered " + got + ", due is " + want);
        }
    }

    void holds(String what, boolean is) {
        if (!is) {
            wrong++;
            System.out.println(test + ": " + what);
        }
    }

    int wrong() {
        return wrong;
    }

    /** Feeds a text and has it read. */
    static int tell(LentGrannies x, String text) {
        for (int i = 0; i < text.length(); i++) {
            x.feed(text.charAt(i));
        }
        return x.town();
    }

    static LentGrannies townOf(String text) {
        LentGrannies x = new LentGrannies();
        if (tell(x, text) < 1) {
            throw new IllegalArgumentException(text);
        }
        return x;
    }

    void end() {
        System.out.println(test + ": " + (wrong == 0 ? "all as due" : wrong + " not as due"));
        if (wrong != 0) {
            System.exit(1);
        }
    }
}
