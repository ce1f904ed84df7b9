/** Promises 14 to 21: worn, chill, fair, wish, swap, most, gain, best. */
public final class WearTest {
    private static final int NONE = SharedSleeves.NONE;
    private static final int UNKNOWN = SharedSleeves.UNKNOWN;
    private static final int OUTSIDE = SharedSleeves.OUTSIDE;
    private static final int NOT = SharedSleeves.NOT;

    public static void main(String[] args) {
        wearing();
        turns();
        wishes();
        swaps();
        mostErrands();
        gains();
        refusals();
        Checks.finish("WearTest");
    }

    private static void hour(SharedSleeves x, int hour, int chill, int... worn) {
        Checks.due("P14 chill of all at " + hour, chill, x.worn(hour, NONE));
        for (int c = 0; c < worn.length; c++) {
            Checks.due("P14 coat " + c + " at " + hour, worn[c], x.worn(hour, c));
        }
    }

    private static void wearing() {
        SharedSleeves x = Checks.townOf("people 3;coat 0 1 21;coat 1 2 5;goes 0 0 1 4;goes 1 0 2 3;goes 1 1 4 4;goes 2 2 3 3;frost 10;");
        hour(x, 0, 0, 0, 0);
        hour(x, 1, 0, 1, 0);
        hour(x, 2, 0, 3, 0);
        hour(x, 3, 5, 3, 2);
        hour(x, 4, 5, 1, 1);
        Checks.due("P15", 0, x.chill(0, 3));
        Checks.due("P15", 0, x.chill(1, 3));
        Checks.due("P15", 5, x.chill(2, 3));
        Checks.due("P15", 0, x.chill(0, 4));
        Checks.due("P15", 5, x.chill(1, 4));
        Checks.due("P15 not out", 0, x.chill(2, 4));
        Checks.due("P5 day", 10, x.told(8));
        x.frost(50);
        hour(x, 2, 74, 1, 1);
        hour(x, 3, 124, 1, 1);
        Checks.due("P15 side by side or alone", 29, x.chill(0, 2));
        x.cut(0);
        hour(x, 4, 80, 3, 0);
        hour(x, 2, 80, 3, 0);
        hour(x, 3, 125, 3, 2);
        Checks.due("P15 a half", 40, x.chill(0, 3));
        Checks.due("P15 a half", 40, x.chill(1, 3));
        Checks.due("P15 the whole", 45, x.chill(2, 3));
        x.frost(0);
        hour(x, 3, 0, 0, 0);
        SharedSleeves apart = Checks.townOf("people 2;coat 0 1 8;goes 0 0 0 1;goes 1 1 0 0;goes 1 0 1 1;frost 4;");
        hour(apart, 0, 4, 1);
        hour(apart, 1, 0, 3);
        apart.cut(0);
        hour(apart, 0, 0, 3);
        SharedSleeves odd = Checks.townOf("people 2;coat 0 1 9;goes 0 0 0 0;goes 1 0 0 0;frost 6;");
        hour(odd, 0, 4, 3);
        Checks.due("P15 half of nine", 2, odd.chill(1, 0));
        SharedSleeves like = Checks.townOf("people 2;coat 0 1 8;coat 0 1 8;goes 0 0 0 0;goes 1 0 0 0;frost 4;");
        hour(like, 0, 0, 0, 3);
    }

    private static void turns() {
        SharedSleeves x = Checks.townOf("people 3;coat 0 1 9;coat 1 2 50;goes 0 0 3 9;goes 1 1 5 7;goes 1 0 9 9;goes 2 0 5 7;frost 20;");
        Checks.due("P16 four hours", 0, x.fair(0, 0));
        Checks.due("P16 four hours", 32 + 64, x.fair(0, 1));
        Checks.due("P16 three hours", 20, x.fair(1, 0));
        Checks.due("P16 three hours", 32, x.fair(1, 1));
        x.frost(70);
        Checks.due("P16 warmth", 50, x.fair(1, 0));
        x.frost(0);
        Checks.due("P16 no frost", 0, x.fair(0, 0));
        Checks.due("P16 no frost", 0, x.fair(0, 1));
        SharedSleeves never = Checks.townOf("people 2;coat 0 1 9;goes 0 0 3 4;goes 1 0 5 6;");
        Checks.due("P16 never both", 0, never.fair(0, 0));
        Checks.due("P16 never both", 0, never.fair(0, 1));
    }

    private static void wishes() {
        SharedSleeves x = Checks.townOf("people 4;coat 0 1 9;coat 2 0 9;coat 1 0 9;likes 0 1 7;likes 0 2 40;likes 1 0 5;likes 2 3 99;");
        Checks.due("P17", 54, x.wish(0));
        Checks.due("P17", 10, x.wish(1));
        Checks.due("P17", 0, x.wish(2));
        Checks.due("P17", 0, x.wish(3));
        x.cut(0);
        Checks.due("P17 not a cut one", 47, x.wish(0));
        x.sell(1, 1, 3);
        Checks.due("P17", 7, x.wish(0));
        Checks.due("P17", 99, x.wish(2));
    }

    private static void swaps() {
        String text = "people 4;coat 0 1 9;coat 2 3 9;likes 0 3 1;likes 2 1 1;likes 1 2 1;likes 3 0 1;";
        SharedSleeves x = Checks.townOf(text);
        Checks.due("P18", 1, x.swap());
        Checks.due("P18 the first: left with left", 2, x.coat(0, 0));
        Checks.due("P18", 1, x.coat(0, 1));
        Checks.due("P18", 0, x.coat(1, 0));
        Checks.due("P18", 3, x.coat(1, 1));
        Checks.due("P18 none more", 0, x.swap());
        SharedSleeves cut = Checks.townOf(text);
        cut.cut(1);
        Checks.due("P18 not a cut one", 0, cut.swap());
        SharedSleeves twice = Checks.townOf("people 3;coat 0 1 9;coat 1 2 9;likes 0 2 5;likes 1 0 9;likes 2 0 5;");
        Checks.due("P18 no coat twice one's", 0, twice.swap());
        SharedSleeves like = Checks.townOf("people 4;coat 0 1 9;coat 2 3 9;likes 0 1 1;likes 0 3 1;likes 2 1 5;");
        Checks.due("P18 both are better off", 0, like.swap());
        // Two who are better off may leave others worse off, so swaps can go round for ever.
        SharedSleeves round = Checks.townOf("people 5;coat 2 1 9;coat 0 4 9;coat 4 2 9;likes 0 3 7;likes 0 4 7;likes 1 0 7;"
            + "likes 1 3 8;likes 1 4 6;likes 2 0 4;likes 2 1 7;likes 2 3 9;likes 2 4 3;likes 3 0 7;likes 3 1 3;likes 3 2 6;"
            + "likes 3 4 2;likes 4 0 3;likes 4 1 7;likes 4 2 9;likes 4 3 3;");
        Checks.due("P18 fifty at most", 50, round.swap());
        Checks.due("P18 fifty more", 50, round.swap());
    }

    private static void mostErrands() {
        SharedSleeves x = Checks.townOf("people 3;coat 0 1 9;coat 0 1 9;goes 0 0 1 5;goes 1 0 3 8;goes 2 0 9 9;goes 0 1 7 7;");
        Checks.due("P19 without the one that has none", 11, x.most());
        SharedSleeves one = Checks.townOf("people 2;coat 0 1 9;goes 0 0 1 5;goes 1 0 3 8;goes 0 1 7 7;goes 1 1 9 9;");
        Checks.due("P19 one at a time", 13, one.most());
        one.keep(0);
        one.cut(0);
        Checks.due("P19 halves", 15, one.most());
        one.goBack(0);
        Checks.due("P19 whole again", 13, one.most());
        Checks.feed(one, "people 2;coat 0 1 9;goes 0 0 1 1;goes 1 0 3 3;goes 0 1 7 7;");
        one.town();
        Checks.due("P19 another town", 7, one.most());
        SharedSleeves like = Checks.townOf("people 2;coat 0 1 9;goes 0 0 1 5;goes 1 0 3 8;");
        Checks.due("P19 the least set", 1, like.most());
        SharedSleeves none = Checks.townOf("people 2;goes 0 0 1 5;");
        Checks.due("P19 no coats", 0, none.most());
        Checks.due("P19 no errands", 0, Checks.townOf("people 2;coat 0 1 9;").most());
    }

    private static void gains() {
        SharedSleeves x = Checks.townOf("people 3;coat 0 1 20;coat 1 2 30;goes 0 0 0 1;goes 1 1 0 1;goes 2 2 5 5;frost 10;");
        // Whole: nobody freezes. Cut in two, the first still does for both, the second for the third.
        Checks.due("P20", 0, x.gain(0));
        Checks.due("P20", 0, x.gain(1));
        Checks.due("P21 of like ones the least", 0, x.best());
        x.frost(20);
        Checks.due("P20 below 0", -20, x.gain(0));
        Checks.due("P20 below 0", -15, x.gain(1));
        Checks.due("P21", 1, x.best());
        Checks.due("P20 changes nothing", 0, x.told(5));
        x.cut(1);
        Checks.due("P21 one that is not cut", 0, x.best());
        x.cut(0);
        Checks.due("P21 none", NONE, x.best());
        SharedSleeves apart = Checks.townOf("people 2;coat 0 1 20;goes 0 0 0 1;goes 1 1 0 1;frost 10;");
        Checks.due("P20 above 0", 20, apart.gain(0));
    }

    private static void refusals() {
        SharedSleeves x = Checks.townOf("people 2;coat 0 1 20;");
        Checks.due("P14", UNKNOWN, x.worn(24, 1));
        Checks.due("P14", UNKNOWN, x.worn(0, -2));
        Checks.due("P14", OUTSIDE, x.worn(24, 0));
        Checks.due("P14", OUTSIDE, x.worn(-1, NONE));
        Checks.due("P15", UNKNOWN, x.chill(2, 24));
        Checks.due("P15", UNKNOWN, x.chill(-1, 0));
        Checks.due("P15", OUTSIDE, x.chill(0, 24));
        Checks.due("P15", OUTSIDE, x.chill(1, -1));
        Checks.due("P16", UNKNOWN, x.fair(1, 2));
        Checks.due("P16", UNKNOWN, x.fair(-1, 0));
        Checks.due("P16", OUTSIDE, x.fair(0, 2));
        Checks.due("P16", OUTSIDE, x.fair(0, -1));
        Checks.due("P17", UNKNOWN, x.wish(2));
        Checks.due("P17", UNKNOWN, x.wish(-1));
        Checks.due("P20", UNKNOWN, x.gain(1));
        Checks.due("P20", UNKNOWN, x.gain(-1));
        x.cut(0);
        Checks.due("P16 outside ahead of cut", OUTSIDE, x.fair(0, 2));
        Checks.due("P16 cut", NOT, x.fair(0, 0));
        Checks.due("P20 cut", NOT, x.gain(0));
    }
}
