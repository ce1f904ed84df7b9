/** What all tests have in common: a text fed, an answer compared, an end with exit code 1. */
final class Checks {
    private static int wrong = 0;

    private Checks() {
    }

    static void due(String call, long want, long got) {
        if (got != want) {
            wrong++;
            if (wrong <= 40) {
                System.out.println(call + " answered " + got + ", due is " + want);
            }
        }
    }

    static boolean allRight() {
        return wrong == 0;
    }

    static void feed(SharedSleeves x, String text) {
        for (int from = 0; from < text.length(); from += 8) {
            int to = Math.min(from + 8, text.length());
            long bytes = -1L;
            for (int i = from; i < to; i++) {
                bytes = bytes << 8 | text.charAt(i) & 255;
            }
            x.feed(to - from, bytes);
        }
    }

    static SharedSleeves townOf(String text) {
        SharedSleeves x = new SharedSleeves();
        feed(x, text);
        int coats = x.town();
        if (coats < 0) {
            due("town() of " + text, 0, coats);
        }
        return x;
    }

    static void finish(String test) {
        System.out.println(test + ": " + (wrong == 0 ? "all answers are as due" : wrong + " answers are not as due"));
        if (wrong != 0) {
            System.exit(1);
        }
    }
}
