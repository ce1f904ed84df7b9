/** The second half of Terms 3 and promises 22 to 31, sentence by sentence: each boundary, at it and on both sides. */
public final class RowsBoundsTest {
    private static final int NONE = SharedSleeves.NONE;
    private static final int UNKNOWN = SharedSleeves.UNKNOWN;
    private static final int OUTSIDE = SharedSleeves.OUTSIDE;
    private static final int NOT = SharedSleeves.NOT;
    private static final int FULL = SharedSleeves.FULL;
    private static final String TOWN =
        "people 4;coat 0 1 9;coat 1 2 8;goes 0 1 5 9;goes 1 1 6 7;goes 1 2 8 9;goes 2 0 7 8;goes 3 1 0 23;frost 12;";

    private long seed;

    public static void main(String[] args) {
        thirtySightings();
        thirtyEntries();
        worePlaceAndHour();
        woreOfWhichSighting();
        theftOfNobody();
        theftElsewhere();
        theftFirst();
        tornBoth();
        judgedWhat();
        judgedWhatOfCutOnes();
        judgedWithThoseAhead();
        judgedAgain();
        judgedFirst();
        new RowsBoundsTest().draws();
        new RowsBoundsTest().winterDays();
        new RowsBoundsTest().winterSells();
        winterRefused();
        seedBounds();
        imagesKept();
        imagesKeepFourThings();
        manyCalls();
        Checks.finish("RowsBoundsTest");
    }

    private static void thirtySightings() {
        String sentence = "SEEN: 30 at most, how many; FULL (30)";
        SharedSleeves x = Checks.townOf(TOWN);
        for (int i = 1; i <= 30; i++) {
            Checks.due(sentence, i, x.see(i % 2, i % 6, i % 24));
            Checks.due(sentence, i, x.told(6));
        }
        Checks.due(sentence, FULL, x.see(0, 0, 0));
        Checks.due(sentence, FULL, x.see(1, 5, 23));
        Checks.due(sentence, 30, x.told(6));
        Checks.due(sentence + ", not THE BOOK", 0, x.told(7));
        Checks.due(sentence + ", not THE BOOK", 1, x.write(0, 0, 0));
        x.tear();
        Checks.due(sentence + ", room again", 1, x.see(0, 0, 0));
    }

    private static void thirtyEntries() {
        String sentence = "THE BOOK: 30 at most, how many; FULL (30)";
        SharedSleeves x = Checks.townOf(TOWN);
        for (int i = 1; i <= 30; i++) {
            Checks.due(sentence, i, x.write(i % 24, i % 2, i % 4));
            Checks.due(sentence, i, x.told(7));
        }
        Checks.due(sentence, FULL, x.write(0, 0, 0));
        Checks.due(sentence, FULL, x.write(23, 1, 3));
        Checks.due(sentence, 30, x.told(7));
        Checks.due(sentence + ", not SEEN", 0, x.told(6));
        Checks.due(sentence + ", not SEEN", 1, x.see(0, 0, 0));
        x.tear();
        Checks.due(sentence + ", room again", 1, x.write(0, 0, 0));
    }

    private static void wore(String sentence, int set, int c, int place, int hour) {
        SharedSleeves x = Checks.townOf(TOWN);
        x.see(c, place, hour);
        Checks.due(sentence + ": COAT " + c + " at PLACE " + place + " in HOUR " + hour, set, x.wore(0));
    }

    private static void worePlaceAndHour() {
        String sentence = "WORE: owners who were OUT there then (a SET)";
        int[] ofFirst = {0, 0, 0, 0, 0, 1, 3, 3, 1, 1, 0};
        int[] ofSecond = {0, 0, 0, 0, 0, 0, 2, 2, 0, 0, 0};
        for (int hour = 0; hour < ofFirst.length; hour++) {
            wore(sentence, ofFirst[hour], 0, 1, hour);
            wore(sentence, ofSecond[hour], 1, 1, hour);
        }
        wore(sentence + " elsewhere", 2, 0, 2, 8);
        wore(sentence + " elsewhere", 2, 1, 2, 8);
        wore(sentence + " elsewhere", 0, 0, 0, 8);
        wore(sentence + " elsewhere", 4, 1, 0, 8);
        wore(sentence + " elsewhere", 0, 0, 5, 8);
        wore(sentence + " not OUT is no PLACE", 0, 0, 0, 0);
        wore(sentence + " the last HOUR", 0, 0, 0, 23);
        SharedSleeves x = Checks.townOf("people 8;coat 0 7 9;goes 7 5 23 23;goes 0 0 0 0;");
        x.see(0, 5, 23);
        x.see(0, 0, 0);
        Checks.due(sentence + " the last of all", 128, x.wore(0));
        Checks.due(sentence + " the first of all", 1, x.wore(1));
        x.cut(0);
        Checks.due(sentence + " of a CUT one", 128, x.wore(0));
    }

    private static void woreOfWhichSighting() {
        String sentence = "of sighting i; UNKNOWN: not so many";
        SharedSleeves x = Checks.townOf(TOWN);
        Checks.due(sentence, UNKNOWN, x.wore(0));
        for (int i = 0; i < 30; i++) {
            x.see(0, 1, i < 29 ? 6 : 8);
            Checks.due(sentence, i < 29 ? 3 : 1, x.wore(i));
            Checks.due(sentence, UNKNOWN, x.wore(i + 1));
        }
        Checks.due(sentence, UNKNOWN, x.wore(-1));
        Checks.due(sentence, UNKNOWN, x.wore(Integer.MIN_VALUE));
        Checks.due(sentence, UNKNOWN, x.wore(Integer.MAX_VALUE));
        x.tear();
        Checks.due(sentence + ", torn", UNKNOWN, x.wore(0));
    }

    /** Sightings (COAT, PLACE, HOUR) in a row, and the first that tells of a THEFT. */
    private static void theft(String sentence, int first, int... sightings) {
        SharedSleeves x = Checks.townOf(TOWN);
        for (int i = 0; i + 2 < sightings.length; i += 3) {
            x.see(sightings[i], sightings[i + 1], sightings[i + 2]);
        }
        Checks.due(sentence, first, x.theft());
        Checks.due(sentence + ", told twice", first, x.theft());
    }

    private static void theftOfNobody() {
        String sentence = "THEFT: nobody can have worn it";
        theft(sentence + ", NONE", NONE);
        theft(sentence + ", an HOUR too soon", 0, 0, 1, 4);
        theft(sentence + ", the first HOUR", NONE, 0, 1, 5);
        theft(sentence + ", the last HOUR", NONE, 0, 1, 9);
        theft(sentence + ", an HOUR too late", 0, 0, 1, 10);
        theft(sentence + ", no owner there", 0, 1, 1, 5);
        theft(sentence + ", one owner is enough", NONE, 1, 0, 8);
    }

    private static void theftElsewhere() {
        String sentence = "THEFT: seen elsewhere in that HOUR already";
        theft(sentence, 1, 0, 1, 8, 0, 2, 8);
        theft(sentence, 1, 0, 2, 8, 0, 1, 8);
        theft(sentence + ", not the same PLACE", NONE, 0, 1, 8, 0, 1, 8);
        theft(sentence + ", not another HOUR", NONE, 0, 1, 7, 0, 2, 8);
        theft(sentence + ", not another COAT", NONE, 0, 1, 8, 1, 2, 8);
        theft(sentence + ", not the one ahead of it alone", 2, 0, 1, 8, 1, 2, 8, 0, 2, 8);
    }

    private static void theftFirst() {
        String sentence = "THEFT: the first";
        theft(sentence + " of two", 1, 0, 1, 8, 0, 2, 8, 0, 1, 4);
        theft(sentence + " of two", 1, 0, 1, 8, 0, 1, 4, 0, 2, 8);
        theft(sentence + ", nobody at first", 0, 0, 5, 8, 0, 1, 8);
        SharedSleeves x = Checks.townOf(TOWN);
        for (int i = 0; i < 29; i++) {
            x.see(0, 1, 8);
        }
        Checks.due(sentence + ", none of 29", NONE, x.theft());
        x.see(0, 2, 8);
        Checks.due(sentence + ", the 30th", 29, x.theft());
        x.tear();
        Checks.due(sentence + ", nothing SEEN", NONE, x.theft());
    }

    private static void tornBoth() {
        String sentence = "THE BOOK is empty, nothing is SEEN: how many both had";
        SharedSleeves x = Checks.townOf(TOWN);
        Checks.due(sentence, 0, x.tear());
        x.see(0, 5, 5);
        Checks.due(sentence, 1, x.tear());
        x.write(5, 0, 3);
        Checks.due(sentence, 1, x.tear());
        Checks.due(sentence, NONE, x.judge());
        Checks.due(sentence, NONE, x.theft());
        for (int i = 0; i < 31; i++) {
            x.see(0, 0, 0);
            x.write(0, 0, 1);
        }
        Checks.due(sentence, 60, x.tear());
        Checks.due(sentence, 0, x.told(6));
        Checks.due(sentence, 0, x.told(7));
        Checks.due(sentence, 0, x.tear());
    }

    private static void judged(String sentence, SharedSleeves x, int first, int... entries) {
        x.tear();
        for (int i = 0; i + 2 < entries.length; i += 3) {
            x.write(entries[i], entries[i + 1], entries[i + 2]);
        }
        Checks.due(sentence + " WRONG", first, x.judge());
        Checks.due(sentence + " told twice", first, x.judge());
    }

    /** Whether what = 0, 1, 2, 3 of COAT 0 can be in an HOUR, written by itself. */
    private static void canBe(String sentence, SharedSleeves x, int hour, boolean left, boolean right, boolean both) {
        String at = sentence + ", HOUR " + hour;
        judged(at + " nobody", x, NONE, hour, 0, 0);
        judged(at + " left", x, left ? NONE : 0, hour, 0, 1);
        judged(at + " right", x, right ? NONE : 0, hour, 0, 2);
        judged(at + " both", x, both ? NONE : 0, hour, 0, 3);
    }

    private static void judgedWhat() {
        String sentence = "by which what is worn cannot be";
        SharedSleeves x = Checks.townOf(TOWN);
        canBe(sentence, x, 0, false, false, false);
        canBe(sentence, x, 4, false, false, false);
        canBe(sentence, x, 5, true, false, false);
        canBe(sentence, x, 6, true, true, true);
        canBe(sentence, x, 7, true, true, true);
        canBe(sentence, x, 8, true, true, false);
        canBe(sentence, x, 9, true, true, false);
        canBe(sentence, x, 10, false, false, false);
        canBe(sentence, x, 23, false, false, false);
        x.frost(0);
        canBe(sentence + ", without FROST", x, 6, true, true, true);
        canBe("the right one alone", Checks.townOf("people 2;coat 0 1 9;goes 1 0 0 0;"), 0, false, true, false);
    }

    private static void judgedWhatOfCutOnes() {
        String sentence = "of a CUT one each half by its own one alone";
        SharedSleeves x = Checks.townOf(TOWN);
        x.cut(0);
        canBe(sentence, x, 4, false, false, false);
        canBe(sentence, x, 5, true, false, false);
        canBe(sentence, x, 6, true, true, true);
        canBe(sentence + ", not at one PLACE", x, 8, true, true, true);
        judged(sentence + ", nor two halves", x, 1, 8, 0, 2, 8, 1, 1);
        x.cut(1);
        judged(sentence + ", nor two halves", x, 1, 8, 0, 2, 8, 1, 1);
        judged(sentence + ", nor two halves", x, 1, 8, 1, 3, 8, 0, 3);
        judged(sentence + ", one half each", x, NONE, 8, 0, 1, 8, 1, 3);
    }

    private static void judgedWithThoseAhead() {
        String sentence = "with those ahead of it in that HOUR: nobody wears two";
        SharedSleeves x = Checks.townOf(TOWN);
        judged(sentence, x, 1, 6, 0, 2, 6, 1, 1);
        judged(sentence, x, 1, 6, 1, 1, 6, 0, 2);
        judged(sentence, x, 1, 6, 1, 1, 6, 0, 3);
        judged(sentence, x, 1, 6, 0, 3, 6, 1, 1);
        judged(sentence + ", the other one", x, NONE, 6, 0, 1, 6, 1, 1);
        judged(sentence + ", nobody", x, NONE, 6, 0, 0, 6, 1, 1);
        judged(sentence + ", nobody", x, NONE, 6, 0, 3, 6, 1, 0);
        judged(sentence + ", another HOUR", x, NONE, 6, 0, 2, 7, 1, 1);
        judged(sentence + ", another HOUR between", x, 2, 6, 0, 2, 7, 1, 1, 6, 1, 1);
        SharedSleeves three = Checks.townOf("people 3;coat 0 1 9;coat 1 2 9;coat 2 0 9;goes 0 0 0 0;goes 1 0 0 0;goes 2 0 0 0;");
        judged(sentence + ", three in three", three, NONE, 0, 0, 1, 0, 1, 1, 0, 2, 1);
        judged(sentence + ", three in three", three, NONE, 0, 0, 2, 0, 1, 2, 0, 2, 2);
        judged(sentence + ", the first of two ahead", three, 2, 0, 0, 1, 0, 1, 1, 0, 2, 2);
        judged(sentence + ", the second of two ahead", three, 2, 0, 0, 2, 0, 1, 2, 0, 2, 1);
        judged(sentence + ", side by side and alone", three, 1, 0, 0, 3, 0, 2, 2);
        judged(sentence + ", side by side and alone", three, NONE, 0, 0, 3, 0, 2, 1);
    }

    private static void judgedAgain() {
        String sentence = "that tells of a COAT in an HOUR of which one ahead of it tells";
        SharedSleeves x = Checks.townOf(TOWN);
        for (int what = 0; what < 4; what++) {
            judged(sentence, x, 1, 6, 0, 0, 6, 0, what);
            judged(sentence, x, 1, 6, 0, what, 6, 0, 0);
            judged(sentence, x, 1, 6, 0, what, 6, 0, what);
        }
        judged(sentence + ", another COAT", x, NONE, 6, 0, 0, 6, 1, 0);
        judged(sentence + ", another HOUR", x, NONE, 6, 0, 0, 7, 0, 0);
        judged(sentence + ", one between", x, 2, 6, 0, 0, 6, 1, 0, 6, 0, 0);
    }

    private static void judgedFirst() {
        String sentence = "the first; NONE";
        SharedSleeves x = Checks.townOf(TOWN);
        judged(sentence, x, NONE);
        judged(sentence, x, 0, 4, 0, 1, 4, 0, 1);
        judged(sentence, x, 1, 6, 0, 0, 4, 0, 1, 6, 0, 0);
        judged(sentence, x, 1, 6, 0, 0, 6, 0, 0, 4, 0, 1);
        x.tear();
        for (int i = 0; i < 29; i++) {
            x.write(i % 24, i / 24, 0);
        }
        Checks.due(sentence + ", none of 29", NONE, x.judge());
        x.write(28 % 24, 1, 0);
        Checks.due(sentence + ", the 30th", 29, x.judge());
        SharedSleeves now = Checks.townOf(TOWN);
        judged("owners of now", now, NONE, 6, 0, 3);
        now.sell(0, 1, 2);
        Checks.due("owners of now", 0, now.judge());
    }

    private int draw(int n) {
        seed = (seed * 1103515245L + 12345L) % (1L << 31);
        return (int) (seed / 65536 % n);
    }

    /** THE SEED ahead of a DAY with this FROST. */
    private int seedOf(int frost) {
        for (int v = 0; v < 1000000; v++) {
            seed = v;
            if (draw(40) == frost) {
                return v;
            }
        }
        return NONE;
    }

    private void draws() {
        String sentence = "THE SEED: it times 1103515245 and 12345, left over by 2 to the 31";
        for (int v : new int[] {0, 1, 2, 65535, 65536, 1073741823, 1073741824, 2147483646, 2147483647}) {
            SharedSleeves x = Checks.townOf("people 3;coat 0 1 9;goes 2 0 4 4;");
            x.seed(v);
            seed = v;
            int frost = draw(40);
            Checks.due("FROST a DRAW of 40 from " + v, frost, x.winter(1));
            Checks.due("FROST a DRAW of 40 from " + v, frost, x.told(4));
            draw(1);
            int sleeve = draw(2);
            int p = draw(3);
            Checks.due("a DRAW of 2, a DRAW of PERSONS from " + v, p == 2 ? 2 : sleeve, x.coat(0, sleeve));
            Checks.due("the other SLEEVE stays from " + v, 1 - sleeve, x.coat(0, 1 - sleeve));
            Checks.due(sentence + ", from " + v, seed, x.seed(0));
        }
        for (int frost : new int[] {0, 1, 38, 39}) {
            SharedSleeves x = Checks.townOf("people 2;coat 0 1 9;goes 0 0 4 4;frost 50;");
            x.seed(seedOf(frost));
            Checks.due("FROST a DRAW of 40: " + frost, Math.max(0, frost - 9), x.winter(1));
            Checks.due("FROST stays as of the last day", frost, x.told(4));
        }
    }

    private void winterDays() {
        String sentence = "a WINTER of n days (n 1 .. 99): CHILL of all days together";
        for (int n : new int[] {1, 2, 3, 50, 98, 99}) {
            SharedSleeves x = Checks.townOf("people 3;coat 0 1 9;coat 0 1 9;goes 2 0 4 6;");
            x.cut(0);
            x.cut(1);
            x.seed(31);
            seed = 31;
            int sum = 0;
            int frost = 0;
            for (int day = 0; day < n; day++) {
                frost = draw(40);
                sum += 3 * frost;
                draw(2);
                draw(2);
                draw(3);
            }
            Checks.due(sentence + ", n " + n, sum, x.winter(n));
            Checks.due("FROST stays as of the last day, n " + n, frost, x.told(4));
            Checks.due("four DRAWS a day, n " + n, seed, x.seed(0));
            Checks.due("CUT ones are not SOLD, n " + n, 0, x.coat(0, 0) + x.coat(1, 0));
        }
        SharedSleeves whole = Checks.townOf(TOWN);
        SharedSleeves parts = Checks.townOf(TOWN);
        Checks.due(sentence + ", one by one", whole.winter(3), parts.winter(1) + parts.winter(1) + parts.winter(1));
        Checks.due(sentence + ", one by one", whole.seed(0), parts.seed(0));
    }

    /** Day by day by hand: COATS of which each day one SLEEVE is drawn. */
    private void winterSells() {
        String sentence = "that SLEEVE is SOLD to that one, if it may be";
        SharedSleeves x = Checks.townOf("people 5;coat 0 1 9;coat 2 3 8;coat 4 0 7;");
        int[][] owners = {{0, 1}, {2, 3}, {4, 0}};
        x.cut(2);
        int[] met = new int[4];
        for (int day = 0; day < 60; day++) {
            Checks.due("nobody is OUT", 0, x.winter(1));
            draw(40);
            int c = draw(3);
            int sleeve = draw(2);
            int p = draw(5);
            boolean own = owners[c][sleeve] == p;
            boolean others = owners[c][1 - sleeve] == p;
            met[c == 2 ? 0 : own ? 1 : others ? 2 : 3]++;
            if (c != 2 && !own && !others) {
                owners[c][sleeve] = p;
            }
            for (int i = 0; i < 6; i++) {
                Checks.due(sentence + ", day " + day, owners[i / 2][i % 2], x.coat(i / 2, i % 2));
            }
        }
        for (int kind = 0; kind < met.length; kind++) {
            Checks.due("days that are CUT, its own, the other's, SOLD: " + kind, 1, met[kind] > 0 ? 1 : 0);
        }
    }

    private static void winterRefused() {
        SharedSleeves x = Checks.townOf("people 2;coat 0 1 9;");
        for (int n : new int[] {Integer.MIN_VALUE, -1, 0, 100, 101, Integer.MAX_VALUE}) {
            Checks.due("n 1 .. 99", OUTSIDE, x.winter(n));
        }
        Checks.due("what is refused changes nothing", 0, x.seed(0));
        Checks.due("what is refused changes nothing", 20, x.told(4));
        SharedSleeves none = Checks.townOf("people 8;");
        Checks.due("OUTSIDE ahead of NOT: no COATS", OUTSIDE, none.winter(0));
        Checks.due("NOT: no COATS", NOT, none.winter(1));
        Checks.due("NOT: no COATS", NOT, none.winter(99));
        Checks.due("OUTSIDE ahead of NOT: no COATS", OUTSIDE, none.winter(100));
    }

    private static void seedBounds() {
        String sentence = "THE SEED becomes v (0 .. 2147483647): what it was";
        SharedSleeves x = new SharedSleeves();
        Checks.due(sentence + ", 0 at first", 0, x.seed(1));
        Checks.due(sentence, 1, x.seed(2147483646));
        Checks.due(sentence, 2147483646, x.seed(2147483647));
        Checks.due(sentence, OUTSIDE, x.seed(-1));
        Checks.due(sentence, OUTSIDE, x.seed(Integer.MIN_VALUE));
        Checks.due(sentence, 2147483647, x.seed(0));
        Checks.due(sentence, 0, x.seed(0));
    }

    private static void imagesKept() {
        String sentence = "IMAGES 0, 1";
        SharedSleeves x = Checks.townOf(TOWN);
        for (int i : new int[] {Integer.MIN_VALUE, -1, 2, 3, Integer.MAX_VALUE}) {
            Checks.due(sentence, UNKNOWN, x.keep(i));
            Checks.due(sentence, UNKNOWN, x.goBack(i));
        }
        Checks.due("NOT: it was not kept", NOT, x.goBack(0));
        Checks.due("NOT: it was not kept", NOT, x.goBack(1));
        x.frost(50);
        Checks.due(sentence, 1, x.keep(0));
        Checks.due("NOT: it was not kept", NOT, x.goBack(1));
        x.frost(51);
        Checks.due(sentence, 1, x.keep(1));
        x.frost(52);
        Checks.due(sentence, 1, x.goBack(0));
        Checks.due(sentence, 50, x.told(4));
        Checks.due(sentence, 1, x.goBack(1));
        Checks.due(sentence, 51, x.told(4));
        Checks.due(sentence + " are there still", 1, x.goBack(0));
        Checks.due(sentence + " are there still", 50, x.told(4));
        x.frost(53);
        Checks.due(sentence + " anew", 1, x.keep(1));
        x.frost(0);
        Checks.due(sentence + " anew", 1, x.goBack(1));
        Checks.due(sentence + " anew", 53, x.told(4));
        Checks.feed(x, "coat");
        x.town();
        Checks.due("a FAULT: all else is as it was", 1, x.goBack(0));
        Checks.feed(x, TOWN);
        x.town();
        Checks.due("IMAGES are gone", NOT, x.goBack(0));
        Checks.due("IMAGES are gone", NOT, x.goBack(1));
    }

    private static void imagesKeepFourThings() {
        String sentence = "keep owners, what is CUT, FROST, THE SEED";
        SharedSleeves x = Checks.townOf("people 4;" + "coat 0 1 9;".repeat(8));
        x.seed(2147483647);
        x.keep(0);
        for (int c = 0; c < 8; c++) {
            x.sell(c, c % 2, 2);
            x.sell(c, 1 - c % 2, 3);
            x.cut(c);
        }
        x.frost(99);
        x.seed(1);
        x.keep(1);
        x.see(0, 1, 2);
        x.write(1, 0, 3);
        Checks.feed(x, "people");
        for (int i = 0; i < 2; i++) {
            Checks.due(sentence, 1, x.goBack(i));
            for (int c = 0; c < 8; c++) {
                Checks.due(sentence + ": owners", i == 0 ? 0 : 2 + c % 2, x.coat(c, 0));
                Checks.due(sentence + ": owners", i == 0 ? 1 : 3 - c % 2, x.coat(c, 1));
            }
            Checks.due(sentence + ": CUT", i == 0 ? 0 : 255, x.told(5));
            Checks.due(sentence + ": FROST", i == 0 ? 20 : 99, x.told(4));
            Checks.due(sentence + ": THE SEED", i == 0 ? 2147483647 : 1, x.seed(7));
            Checks.due(sentence + ": not what is SEEN", 1, x.told(6));
            Checks.due(sentence + ": not THE BOOK", 1, x.told(7));
            Checks.due(sentence + ": not THE TEXT", 6, x.told(3));
        }
    }

    /** "At most 512 calls": the last of them answers as the first one does. */
    private static void manyCalls() {
        SharedSleeves x = new SharedSleeves();
        for (int call = 0; call < 512; call++) {
            Checks.due("call " + call + " of 512", Math.max(0, call - 1), x.seed(call));
        }
        SharedSleeves towns = new SharedSleeves();
        for (int call = 0; call < 510; call += 3) {
            Checks.due("call " + call + " of 512", 8, towns.feed(8, 0x70656F706C652031L + call % 8));
            Checks.due("call " + call + " of 512", 9, towns.feed(1, ';'));
            Checks.due("call " + call + " of 512", 0, towns.town());
        }
        Checks.due("call 511 of 512", 1 + 507 % 8, towns.told(0));
        SharedSleeves first = Checks.townOf(TOWN);
        SharedSleeves second = Checks.townOf(TOWN);
        for (int call = 20; call < 511; call++) {
            Checks.due("call " + call + " of 512", first.winter(99), second.winter(99));
        }
        Checks.due("call 512 of 512", first.told(8), second.told(8));
    }
}
