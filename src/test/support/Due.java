/** Counts the answers that are not as due, for all tests of the project. */
final class Due {
    private static int wrong = 0;
    private static int asked = 0;
    private static String within = "";

    private Due() {
    }

    /** What is asked from now on is part of this test. */
    static void within(String test) {
        within = test + ": ";
    }

    static void is(String call, long got, long want) {
        asked++;
        if (got != want) {
            wrong++;
            System.out.println(within + call + " answered " + got + ", due is " + want);
        }
    }

    static int asked() {
        return asked;
    }

    /** Feeds a text, eight bytes at a time. */
    static void feed(MannersGaol x, String text) {
        for (int i = 0; i < text.length(); i += 8) {
            int n = Math.min(8, text.length() - i);
            x.feed(eight(text, i, n), n);
        }
    }

    static long eight(String text, int from, int n) {
        long eight = 0;
        for (int k = n - 1; k >= 0; k--) {
            eight = eight << 8 | text.charAt(from + k) & 255;
        }
        return eight;
    }

    static void end() {
        System.out.println(asked + " answers asked, " + wrong + " not as due");
        if (wrong != 0) {
            System.exit(1);
        }
    }
}
