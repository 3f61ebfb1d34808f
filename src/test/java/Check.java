/** Compares answers with those that are due, and ends a test with exit code 1 if one was wrong. */
final class Check {
    private final String test;
    private int wrong = 0;
    private int asked = 0;

    Check(String test) {
        this.test = test;
    }

    void due(String call, long got, long want) {
        asked++;
        if (got != want) {
            wrong++;
            System.out.println(test + ": " + call + " answered " + got + ", due is " + want);
        }
    }

    /** Two answers that together are a fraction. */
    void fraction(String call, long top, long bottom, long wantTop, long wantBottom) {
        due(call + " numerator", top, wantTop);
        due(call + " denominator", bottom, wantBottom);
    }

    void finish() {
        System.out.println(test + ": " + asked + " answers, " + wrong + " wrong");
        if (wrong != 0) {
            System.exit(1);
        }
    }

    /** Feeds a text to an empty tape, and cuts what the last feed had too much. */
    static void feed(CrossOrName x, String text) {
        for (int i = 0; i < text.length(); i += 8) {
            long eight = 0;
            for (int j = i; j < i + 8; j++) {
                eight = eight << 8 | (j < text.length() ? text.charAt(j) & 255 : ' ');
            }
            x.feed(eight);
        }
        x.end(text.length());
    }

    static int tell(CrossOrName x, String text) {
        feed(x, text);
        return x.land();
    }

    static CrossOrName landOf(String text) {
        CrossOrName x = new CrossOrName();
        tell(x, text);
        return x;
    }
}
