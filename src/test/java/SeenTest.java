/** Promises 22 to 31: see, wore, theft, write, tear, judge, winter, seed, keep, goBack. */
public final class SeenTest {
    private static final int NONE = SharedSleeves.NONE;
    private static final int UNKNOWN = SharedSleeves.UNKNOWN;
    private static final int OUTSIDE = SharedSleeves.OUTSIDE;
    private static final int NOT = SharedSleeves.NOT;
    private static final int FULL = SharedSleeves.FULL;
    private static final String TOWN =
        "people 3;coat 0 1 9;coat 1 2 8;goes 0 1 5 9;goes 1 1 6 7;goes 1 2 8 9;goes 2 0 7 8;frost 12;";

    public static void main(String[] args) {
        seeing();
        thefts();
        writing();
        judging();
        winters();
        seeds();
        images();
        Checks.finish("SeenTest");
    }

    private static void seeing() {
        SharedSleeves x = Checks.townOf(TOWN);
        Checks.due("P22", UNKNOWN, x.see(2, 6, 24));
        Checks.due("P22", UNKNOWN, x.see(-1, 0, 0));
        Checks.due("P22", OUTSIDE, x.see(0, 6, 0));
        Checks.due("P22", OUTSIDE, x.see(0, -1, 0));
        Checks.due("P22", OUTSIDE, x.see(0, 5, 24));
        Checks.due("P22", OUTSIDE, x.see(0, 0, -1));
        Checks.due("P23", UNKNOWN, x.wore(0));
        Checks.due("P22", 1, x.see(0, 1, 6));
        Checks.due("P22", 2, x.see(0, 2, 9));
        Checks.due("P22", 3, x.see(1, 1, 5));
        Checks.due("P22", 4, x.see(0, 5, 23));
        Checks.due("P23 both", 3, x.wore(0));
        Checks.due("P23 right", 2, x.wore(1));
        Checks.due("P23 nobody of its owners", 0, x.wore(2));
        Checks.due("P23", UNKNOWN, x.wore(4));
        Checks.due("P23", UNKNOWN, x.wore(-1));
        x.sell(0, 0, 2);
        Checks.due("P23 owners of now", 2, x.wore(0));
        for (int i = 5; i <= 30; i++) {
            Checks.due("P22", i, x.see(0, 1, 6));
        }
        Checks.due("P22 full", FULL, x.see(0, 1, 6));
        Checks.due("P22 outside ahead of full", OUTSIDE, x.see(0, 6, 6));
        Checks.due("P5 seen", 30, x.told(6));
        Checks.due("P25 the book has room", 1, x.write(6, 0, 1));
        Checks.due("P26", 31, x.tear());
        Checks.due("P5 seen", 0, x.told(6));
        Checks.due("P5 book", 0, x.told(7));
    }

    private static void thefts() {
        SharedSleeves x = Checks.townOf(TOWN);
        x.see(0, 1, 8);
        x.see(1, 2, 8);
        x.see(0, 1, 8);
        Checks.due("P24 none", NONE, x.theft());
        x.see(0, 2, 8);
        Checks.due("P24 elsewhere in that hour", 3, x.theft());
        x.tear();
        x.see(0, 1, 9);
        x.see(0, 1, 4);
        Checks.due("P24 nobody", 1, x.theft());
        x.tear();
        x.see(0, 1, 8);
        x.see(0, 2, 9);
        Checks.due("P24 elsewhere in another hour", NONE, x.theft());
    }

    private static void writing() {
        SharedSleeves x = Checks.townOf(TOWN);
        Checks.due("P25", UNKNOWN, x.write(24, 2, 4));
        Checks.due("P25", UNKNOWN, x.write(0, -1, 0));
        Checks.due("P25", OUTSIDE, x.write(24, 0, 0));
        Checks.due("P25", OUTSIDE, x.write(-1, 0, 0));
        Checks.due("P25", OUTSIDE, x.write(0, 0, 4));
        Checks.due("P25", OUTSIDE, x.write(0, 0, -1));
        for (int i = 1; i <= 30; i++) {
            Checks.due("P25", i, x.write(i % 24, i / 24, 0));
        }
        Checks.due("P25 full", FULL, x.write(0, 0, 0));
        Checks.due("P25 outside ahead of full", OUTSIDE, x.write(0, 0, 4));
        Checks.due("P5 book", 30, x.told(7));
        Checks.due("P27 nobody wears it", NONE, x.judge());
        Checks.due("P22 room to see", 1, x.see(0, 0, 0));
        Checks.due("P26", 31, x.tear());
        Checks.due("P26", 0, x.tear());
    }

    /** Entries (hour, coat, what) in a row, and the first that is wrong. */
    private static void judged(SharedSleeves x, int wrong, int... entries) {
        x.tear();
        for (int i = 0; i + 2 < entries.length; i += 3) {
            x.write(entries[i], entries[i + 1], entries[i + 2]);
        }
        Checks.due("P27", wrong, x.judge());
    }

    private static void judging() {
        SharedSleeves x = Checks.townOf(TOWN);
        judged(x, NONE);
        judged(x, NONE, 6, 0, 3, 7, 0, 1, 7, 1, 2);
        judged(x, 0, 5, 0, 2);
        judged(x, 0, 4, 0, 1);
        judged(x, 0, 5, 0, 3);
        judged(x, 0, 8, 0, 3);
        judged(x, 1, 8, 0, 0, 8, 0, 0);
        judged(x, 1, 8, 0, 2, 8, 1, 1);
        judged(x, NONE, 8, 0, 2, 8, 1, 2);
        judged(x, NONE, 8, 0, 2, 9, 1, 1);
        judged(x, 1, 6, 0, 3, 6, 1, 1);
        judged(x, 2, 6, 1, 1, 5, 0, 1, 6, 0, 3);
        SharedSleeves three = Checks.townOf("people 4;coat 0 1 9;coat 2 3 9;coat 0 3 9;goes 0 0 1 1;goes 2 0 1 1;goes 3 0 1 1;");
        judged(three, 2, 1, 0, 1, 1, 1, 1, 1, 2, 1);
        judged(three, NONE, 1, 0, 1, 1, 1, 1, 1, 2, 2);
        x.cut(0);
        judged(x, NONE, 8, 0, 3);
        judged(x, 0, 5, 0, 3);
        judged(x, 1, 8, 0, 3, 8, 1, 1);
        judged(x, NONE, 8, 0, 1, 8, 1, 1);
    }

    private static void winters() {
        SharedSleeves x = Checks.townOf("people 2;coat 0 1 9;goes 0 0 0 23;");
        Checks.due("P28", OUTSIDE, x.winter(0));
        Checks.due("P28", OUTSIDE, x.winter(100));
        Checks.due("P28", OUTSIDE, x.winter(-1));
        // With seed 0: 12345 / 65536 is 0; the draws after it sell nothing to one of two owners.
        Checks.due("P28 no frost", 0, x.winter(1));
        Checks.due("P28 frost stays", 0, x.told(4));
        long seed = 0;
        for (int i = 0; i < 4; i++) {
            seed = (seed * 1103515245L + 12345L) % 2147483648L;
        }
        Checks.due("P29 four draws a day", seed, x.seed(5));
        long next = (5 * 1103515245L + 12345L) % 2147483648L;
        int frost = (int) (next / 65536 % 40);
        Checks.due("P28 a day", 24 * Math.max(0, frost - 9), x.winter(1));
        Checks.due("P28 frost", frost, x.told(4));
        SharedSleeves none = Checks.townOf("people 2;");
        Checks.due("P28 no coats", NOT, none.winter(99));
        Checks.due("P28 outside ahead of it", OUTSIDE, none.winter(100));
        Checks.due("P28 no draw", 0, none.seed(0));
        SharedSleeves sold = Checks.townOf("people 8;coat 0 1 9;");
        sold.seed(7);
        sold.winter(99);
        Checks.due("P28 sold", 1, sold.coat(0, 0) != 0 || sold.coat(0, 1) != 1 ? 1 : 0);
        Checks.due("P28 not twice one's", 1, sold.coat(0, 0) != sold.coat(0, 1) ? 1 : 0);
        SharedSleeves cut = Checks.townOf("people 8;coat 0 1 9;");
        cut.cut(0);
        cut.seed(7);
        Checks.due("P28 nobody out", 0, cut.winter(99));
        Checks.due("P28 not a cut one", 0, cut.coat(0, 0));
        Checks.due("P28 not a cut one", 1, cut.coat(0, 1));
        Checks.due("P28 the draws are the same", sold.seed(0), cut.seed(0));
    }

    private static void seeds() {
        SharedSleeves x = new SharedSleeves();
        Checks.due("P29", 0, x.seed(2147483647));
        Checks.due("P29", OUTSIDE, x.seed(-1));
        Checks.due("P29", OUTSIDE, x.seed(-2147483648));
        Checks.due("P29", 2147483647, x.seed(3));
        Checks.due("P29", 3, x.seed(0));
    }

    private static void images() {
        SharedSleeves x = Checks.townOf(TOWN);
        Checks.due("P30", UNKNOWN, x.keep(2));
        Checks.due("P30", UNKNOWN, x.keep(-1));
        Checks.due("P31", UNKNOWN, x.goBack(2));
        Checks.due("P31", UNKNOWN, x.goBack(-1));
        Checks.due("P31 not kept", NOT, x.goBack(0));
        x.seed(4);
        Checks.due("P30", 1, x.keep(1));
        Checks.due("P31 not kept", NOT, x.goBack(0));
        x.sell(0, 0, 2);
        x.cut(1);
        x.frost(77);
        x.seed(5);
        x.see(0, 1, 5);
        x.write(6, 0, 2);
        Checks.due("P30", 1, x.keep(0));
        Checks.due("P31", 1, x.goBack(1));
        Checks.due("P31 owner", 0, x.coat(0, 0));
        Checks.due("P31 cut", 0, x.told(5));
        Checks.due("P31 frost", 12, x.told(4));
        Checks.due("P31 seen stays", 1, x.told(6));
        Checks.due("P31 the book stays", 1, x.told(7));
        Checks.due("P31 seed", 4, x.seed(9));
        Checks.due("P31", 1, x.goBack(0));
        Checks.due("P31 owner", 2, x.coat(0, 0));
        Checks.due("P31 cut", 2, x.told(5));
        Checks.due("P31 frost", 77, x.told(4));
        Checks.due("P31 seed", 5, x.seed(9));
        x.sell(0, 0, 0);
        Checks.due("P31 again", 1, x.goBack(0));
        Checks.due("P31 an image is not changed by what comes after", 2, x.coat(0, 0));
        Checks.due("P30 anew", 1, x.keep(1));
        Checks.due("P31", 1, x.goBack(1));
        Checks.due("P31", 77, x.told(4));
    }
}
