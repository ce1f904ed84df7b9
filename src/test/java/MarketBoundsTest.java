/** The first half of Terms 3 and promises 16 to 21, sentence by sentence: each boundary, at it and on both sides. */
public final class MarketBoundsTest {
    private static final int NONE = SharedSleeves.NONE;
    private static final int NOT = SharedSleeves.NOT;

    public static void main(String[] args) {
        hoursOfBothOut();
        turnsByNumber();
        turnsByFrost();
        nothingElseIsWorn();
        wishOfEachCoat();
        wishNotOfCutOnes();
        swapsOfTwoCoats();
        swapsOfUnlikeOwners();
        swapsLeaveNoOwnerTwice();
        bothHaveMore();
        swapsNotOfCutOnes();
        firstSwap();
        swapsAsLongAsThereIsOne();
        errandsInOneHour();
        errandsAlone();
        errandsOfCutOnes();
        mostOfErrands();
        leastOfErrands();
        gains();
        bestOfGains();
        Checks.finish("MarketBoundsTest");
    }

    private static void fair(String sentence, SharedSleeves x, int c, int differ, int hours) {
        Checks.due(sentence + ": by how much", differ, x.fair(c, 0));
        Checks.due(sentence + ": SET of HOURS", hours, x.fair(c, 1));
    }

    private static void hoursOfBothOut() {
        String sentence = "HOURS in which both its owners are OUT";
        fair(sentence + ", never", Checks.townOf("people 2;coat 0 1 9;goes 0 0 3 4;goes 1 0 5 6;"), 0, 0, 0);
        fair(sentence + ", one never", Checks.townOf("people 2;coat 0 1 9;goes 0 0 0 23;"), 0, 0, 0);
        fair(sentence + ", once", Checks.townOf("people 2;coat 0 1 9;goes 0 0 3 5;goes 1 0 5 6;"), 0, 9, 0);
        fair(sentence + ", twice", Checks.townOf("people 2;coat 0 1 9;goes 0 0 3 5;goes 1 0 4 6;"), 0, 0, 1 << 4);
        fair(sentence + ", at two PLACES", Checks.townOf("people 2;coat 0 1 9;goes 0 0 3 5;goes 1 5 4 6;"), 0, 0, 1 << 4);
        fair(sentence + ", the first and the last", Checks.townOf("people 2;coat 0 1 9;goes 0 0 0 23;goes 1 0 0 0;goes 1 0 23 23;"), 0, 0, 1);
        fair(sentence + ", the last two", Checks.townOf("people 2;coat 0 1 9;goes 0 0 22 23;goes 1 0 0 23;"), 0, 0, 1 << 22);
        fair(sentence + ", the last", Checks.townOf("people 2;coat 0 1 9;goes 0 0 23 23;goes 1 0 0 23;"), 0, 9, 0);
    }

    private static void turnsByNumber() {
        String sentence = "differ least; of like ones the least SET";
        for (int n = 1; n <= 24; n++) {
            SharedSleeves x = Checks.townOf("people 2;coat 1 0 9;goes 0 0 0 23;goes 1 0 0 " + (n - 1) + ";");
            fair(sentence + ", " + n + " HOURS", x, 0, n % 2 * 9, (1 << n / 2) - 1);
        }
        SharedSleeves apart = Checks.townOf("people 2;coat 0 1 9;goes 0 0 0 23;goes 1 0 2 2;goes 1 0 5 6;goes 1 1 9 9;goes 1 1 20 20;");
        fair(sentence + ", the lowest HOURS", apart, 0, 9, 1 << 2 | 1 << 5);
    }

    private static void turnsByFrost() {
        String sentence = "by which their CHILLS in these HOURS differ";
        SharedSleeves x = Checks.townOf("people 2;coat 0 1 9;goes 0 0 1 3;goes 1 0 1 3;");
        int[][] frostAndDiffer = {{1, 1}, {8, 8}, {9, 9}, {10, 9}, {99, 9}};
        for (int[] row : frostAndDiffer) {
            x.frost(row[0]);
            fair(sentence + ", FROST " + row[0], x, 0, row[1], 2);
        }
        x.frost(0);
        fair(sentence + ", without FROST all are alike: the least SET", x, 0, 0, 0);
        SharedSleeves thin = Checks.townOf("people 2;coat 0 1 1;goes 0 0 1 3;goes 1 0 1 3;");
        fair(sentence + ", WARMTH alone, not W / 2", thin, 0, 1, 2);
    }

    private static void nothingElseIsWorn() {
        String sentence = "nothing else is worn";
        SharedSleeves x = Checks.townOf("people 3;coat 0 1 9;coat 0 2 50;coat 1 2 3;goes 0 0 1 3;goes 1 0 1 3;frost 60;");
        fair(sentence, x, 0, 9, 2);
        fair("both its owners", x, 1, 0, 0);
        x.cut(1);
        fair(sentence, x, 0, 9, 2);
        Checks.due("FAIR TURNS of a COAT (not CUT)", NOT, x.fair(1, 0));
        Checks.due("FAIR TURNS of a COAT (not CUT)", NOT, x.fair(1, 1));
        x.sell(0, 1, 2);
        fair("owners of now", x, 0, 0, 0);
    }

    private static void wishOfEachCoat() {
        String sentence = "the sum of L of who has the other SLEEVE of each of its COATS";
        String likes = "likes 0 1 40;likes 1 0 3;likes 0 2 7;";
        Checks.due(sentence + ", none", 0, Checks.townOf("people 3;coat 1 2 9;" + likes).wish(0));
        Checks.due(sentence + ", left", 40, Checks.townOf("people 3;coat 0 1 9;" + likes).wish(0));
        Checks.due(sentence + ", right", 40, Checks.townOf("people 3;coat 1 0 9;" + likes).wish(0));
        Checks.due(sentence + ", the other's", 3, Checks.townOf("people 3;coat 1 0 9;" + likes).wish(1));
        Checks.due(sentence + ", one twice", 80, Checks.townOf("people 3;coat 1 0 9;coat 0 1 1;" + likes).wish(0));
        Checks.due(sentence + ", of two", 47, Checks.townOf("people 3;coat 1 0 9;coat 0 2 1;" + likes).wish(0));
        Checks.due(sentence + ", untold", 0, Checks.townOf("people 3;coat 1 0 9;coat 0 2 1;" + likes).wish(2));
        Checks.due(sentence + ", eight", 792, Checks.townOf("people 2;" + "coat 0 1 9;".repeat(8) + "likes 0 1 99;").wish(0));
    }

    private static void wishNotOfCutOnes() {
        SharedSleeves x = Checks.townOf("people 2;coat 0 1 9;coat 1 0 9;likes 0 1 5;likes 1 0 6;");
        Checks.due("WISH", 10, x.wish(0));
        x.cut(1);
        Checks.due("WISH of COATS not CUT", 5, x.wish(0));
        Checks.due("WISH of COATS not CUT", 6, x.wish(1));
        x.cut(0);
        Checks.due("WISH of COATS not CUT", 0, x.wish(0));
        Checks.due("WISH of COATS not CUT", 0, x.wish(1));
    }

    /** How many SWAPS, and who has the SLEEVES then: the left and the right one of each COAT. */
    private static void swaps(String sentence, SharedSleeves x, int count, int... owners) {
        Checks.due(sentence + ": SWAPS", count, x.swap());
        for (int i = 0; i < owners.length; i++) {
            Checks.due(sentence + ": SLEEVE " + i, owners[i], x.coat(i / 2, i % 2));
        }
    }

    private static void swapsOfTwoCoats() {
        String sentence = "two SLEEVES of two COATS";
        swaps(sentence + ", none", Checks.townOf("people 2;likes 0 1 9;likes 1 0 9;"), 0);
        swaps(sentence + ", one", Checks.townOf("people 2;coat 0 1 9;likes 0 1 9;likes 1 0 9;"), 0, 0, 1);
        swaps(sentence + ", two", Checks.townOf("people 4;coat 0 1 9;coat 2 3 9;likes 0 3 1;likes 2 1 1;"), 1, 2, 1, 0, 3);
        swaps(sentence + ", the first and the last", Checks.townOf("people 4;coat 0 1 9;" + "coat 0 1 9;".repeat(6) + "coat 2 3 9;likes 0 3 1;likes 2 1 1;"), 1,
            2, 1, 0, 1, 0, 1, 0, 1, 0, 1, 0, 1, 0, 1, 0, 3);
    }

    private static void swapsOfUnlikeOwners() {
        String sentence = "of unlike owners";
        swaps(sentence, Checks.townOf("people 3;coat 0 1 9;coat 0 2 9;likes 0 1 5;likes 0 2 9;"), 0, 0, 1, 0, 2);
        swaps(sentence, Checks.townOf("people 2;coat 0 1 9;coat 1 0 9;likes 0 1 5;likes 1 0 9;"), 0, 0, 1, 1, 0);
    }

    private static void swapsLeaveNoOwnerTwice() {
        String sentence = "so that no COAT has one owner twice";
        swaps(sentence + ", the first", Checks.townOf("people 3;coat 0 1 9;coat 1 2 9;likes 0 2 9;likes 1 0 5;"), 0, 0, 1, 1, 2);
        swaps(sentence + ", the second", Checks.townOf("people 3;coat 1 2 9;coat 0 1 9;likes 0 2 9;likes 1 0 5;"), 0, 1, 2, 0, 1);
        swaps(sentence + ", but for the other SLEEVES", Checks.townOf("people 3;coat 0 1 9;coat 1 2 9;likes 0 2 1;likes 2 0 1;likes 1 2 1;likes 1 0 1;"), 0, 0, 1, 1, 2);
        swaps(sentence + ", four of them", Checks.townOf("people 4;coat 0 1 9;coat 2 3 9;likes 0 2 1;likes 3 1 1;"), 1, 3, 1, 2, 0);
    }

    private static void bothHaveMore() {
        String sentence = "both have more WISH then";
        String coats = "people 4;coat 0 1 9;coat 2 3 9;";
        swaps(sentence + ", neither", Checks.townOf(coats), 0, 0, 1, 2, 3);
        swaps(sentence + ", one", Checks.townOf(coats + "likes 0 3 9;"), 0, 0, 1, 2, 3);
        swaps(sentence + ", the other", Checks.townOf(coats + "likes 2 1 9;"), 0, 0, 1, 2, 3);
        swaps(sentence + ", one as much", Checks.townOf(coats + "likes 0 1 4;likes 0 3 4;likes 2 1 9;"), 0, 0, 1, 2, 3);
        swaps(sentence + ", one by 1 less", Checks.townOf(coats + "likes 0 1 5;likes 0 3 4;likes 2 1 9;"), 0, 0, 1, 2, 3);
        swaps(sentence + ", one by 1 more", Checks.townOf(coats + "likes 0 1 3;likes 0 3 4;likes 2 1 9;"), 1, 2, 1, 0, 3);
        swaps(sentence + ", the other as much", Checks.townOf(coats + "likes 0 3 9;likes 2 1 4;likes 2 3 4;"), 0, 0, 1, 2, 3);
        swaps(sentence + ", the other by 1 more", Checks.townOf(coats + "likes 0 3 9;likes 2 1 4;likes 2 3 3;"), 1, 2, 1, 0, 3);
        swaps(sentence + ", the others do not count", Checks.townOf(coats + "likes 0 3 1;likes 2 1 1;likes 1 0 99;"), 1, 2, 1, 0, 3);
        swaps(sentence + ", by all its COATS", Checks.townOf("people 4;coat 0 1 9;coat 2 3 9;coat 0 2 9;likes 0 3 1;likes 2 1 1;likes 0 2 50;"), 1, 2, 1, 0, 3, 0, 2);
    }

    private static void swapsNotOfCutOnes() {
        String sentence = "two COATS (not CUT)";
        for (int c = 0; c < 2; c++) {
            SharedSleeves x = Checks.townOf("people 4;coat 0 1 9;coat 2 3 9;likes 0 3 1;likes 2 1 1;");
            x.cut(c);
            swaps(sentence, x, 0, 0, 1, 2, 3);
        }
        SharedSleeves third = Checks.townOf("people 4;coat 0 1 9;coat 2 3 9;coat 2 3 9;likes 0 3 1;likes 2 1 1;");
        third.cut(1);
        swaps(sentence + ", the next", third, 1, 2, 1, 2, 3, 0, 3);
    }

    private static void firstSwap() {
        String sentence = "the first (COAT and SLEEVE by numbers: the lesser one, then the other)";
        String coats = "people 4;coat 0 1 9;coat 2 3 9;";
        swaps(sentence + ", left with left ahead of left with right", Checks.townOf(coats + "likes 0 3 1;likes 2 1 1;likes 0 2 1;likes 3 1 1;"), 1, 2, 1, 0, 3);
        swaps(sentence + ", left with right ahead of right with left", Checks.townOf(coats + "likes 0 2 1;likes 3 1 1;likes 1 3 1;likes 2 0 1;"), 1, 3, 1, 2, 0);
        swaps(sentence + ", right with left ahead of right with right", Checks.townOf(coats + "likes 1 3 1;likes 2 0 1;likes 1 2 1;likes 3 0 1;"), 1, 0, 2, 1, 3);
        swaps(sentence + ", right with right", Checks.townOf(coats + "likes 1 2 1;likes 3 0 1;"), 1, 0, 3, 2, 1);
        swaps(sentence + ", the lesser one is the first to look at", Checks.townOf("people 6;coat 0 1 9;coat 2 3 9;coat 4 5 9;likes 0 5 1;likes 4 1 1;likes 1 3 1;likes 2 0 1;"),
            1, 4, 1, 2, 3, 0, 5);
        swaps(sentence + ", then the other", Checks.townOf("people 6;coat 0 1 9;coat 2 3 9;coat 4 5 9;likes 0 5 1;likes 0 3 1;likes 4 1 1;likes 2 1 1;"),
            1, 2, 1, 0, 3, 4, 5);
    }

    private static void swapsAsLongAsThereIsOne() {
        String sentence = "as long as there is one, 50 at most: how many";
        SharedSleeves two = Checks.townOf("people 8;coat 0 1 9;coat 2 3 9;coat 4 5 9;coat 6 7 9;likes 0 3 1;likes 2 1 1;likes 4 7 1;likes 6 5 1;");
        swaps(sentence, two, 2, 2, 1, 0, 3, 6, 5, 4, 7);
        swaps(sentence + ", none more", two, 0, 2, 1, 0, 3, 6, 5, 4, 7);
        SharedSleeves twice = Checks.townOf("people 6;coat 0 1 9;coat 2 3 9;coat 4 5 9;likes 0 3 1;likes 2 1 1;likes 0 5 2;likes 4 3 1;");
        swaps(sentence + ", one of them twice", twice, 2, 2, 1, 4, 3, 0, 5);
        Model model = new Model();
        model.people = 5;
        int[][] owners = {{2, 1}, {0, 4}, {4, 2}};
        int[][] likes = {{0, 3, 7}, {0, 4, 7}, {1, 0, 7}, {1, 3, 8}, {1, 4, 6}, {2, 0, 4}, {2, 1, 7}, {2, 3, 9}, {2, 4, 3},
            {3, 0, 7}, {3, 1, 3}, {3, 2, 6}, {3, 4, 2}, {4, 0, 3}, {4, 1, 7}, {4, 2, 9}, {4, 3, 3}};
        StringBuilder text = new StringBuilder("people 5;");
        for (int[] row : owners) {
            model.coats.add(new int[] {row[0], row[1], 9, 0});
            text.append("coat ").append(row[0]).append(' ').append(row[1]).append(" 9;");
        }
        for (int[] row : likes) {
            model.likes[row[0]][row[1]] = row[2];
            text.append("likes ").append(row[0]).append(' ').append(row[1]).append(' ').append(row[2]).append(';');
        }
        SharedSleeves round = Checks.townOf(text.toString());
        for (int i = 0; i < 5; i++) {
            Checks.due(sentence + ", round and round", 50, model.swap());
            int[][] now = {model.coats.get(0), model.coats.get(1), model.coats.get(2)};
            swaps(sentence + ", round and round", round, 50, now[0][0], now[0][1], now[1][0], now[1][1], now[2][0], now[2][1]);
        }
    }

    private static void most(String sentence, String text, int set) {
        Checks.due(sentence + ": MOST ERRANDS of '" + text + "'", set, Checks.townOf(text).most());
    }

    private static void errandsInOneHour() {
        String sentence = "in each HOUR of which everybody OUT has a COAT";
        String coat = "people 2;coat 0 1 9;";
        most(sentence + ", one HOUR of both", coat + "goes 0 0 1 5;goes 1 0 5 8;", 1);
        most(sentence + ", no HOUR of both", coat + "goes 0 0 1 5;goes 1 0 6 8;", 3);
        most(sentence + ", one HOUR of both", coat + "goes 0 0 5 8;goes 1 0 1 5;", 1);
        most(sentence + ", no HOUR of both", coat + "goes 0 0 5 8;goes 1 0 1 4;", 3);
        most(sentence + ", one within the other", coat + "goes 0 0 1 8;goes 1 0 4 4;", 1);
        most(sentence + ", one within the other", coat + "goes 0 0 4 4;goes 1 0 1 8;", 1);
        most(sentence + ", the HOURS 0 and 23", coat + "goes 0 0 0 0;goes 1 0 0 0;goes 0 0 23 23;goes 1 0 23 23;", 5);
        most(sentence + ", all HOURS", coat + "goes 0 0 0 23;goes 1 0 0 23;", 1);
    }

    private static void errandsAlone() {
        String sentence = "a COAT of its own to wear alone";
        most(sentence + ", not side by side", "people 2;coat 0 1 99;goes 0 3 1 1;goes 1 3 1 1;", 1);
        most(sentence + ", two in two", "people 2;coat 0 1 9;coat 0 1 9;goes 0 3 1 1;goes 1 3 1 1;", 3);
        most(sentence + ", of its own", "people 4;coat 0 1 9;coat 0 1 9;goes 2 3 1 1;goes 0 3 1 1;", 2);
        most(sentence + ", three in two", "people 3;coat 0 1 9;coat 1 2 9;goes 0 3 1 1;goes 1 3 1 1;goes 2 3 1 1;", 3);
        most(sentence + ", three in three", "people 3;coat 0 1 9;coat 1 2 9;coat 2 0 9;goes 0 3 1 1;goes 1 3 1 1;goes 2 3 1 1;", 7);
        most(sentence + ", whoever takes which", "people 3;coat 0 1 9;coat 0 2 9;goes 0 3 1 1;goes 2 3 1 1;", 3);
        most(sentence + ", whoever takes which", "people 3;coat 0 2 9;coat 0 1 9;goes 0 3 1 1;goes 2 3 1 1;", 3);
        most(sentence + ", one has many", "people 4;coat 0 1 9;coat 0 1 9;coat 0 1 9;goes 0 3 1 1;goes 2 3 1 1;goes 3 3 1 1;", 1);
        StringBuilder ring = new StringBuilder("people 8;");
        for (int p = 0; p < 8; p++) {
            ring.append("coat ").append(p).append(' ').append((p + 1) % 8).append(" 1;goes ").append(p).append(" 0 0 23;");
        }
        most(sentence + ", eight in eight", ring.toString(), 255);
    }

    private static void errandsOfCutOnes() {
        String sentence = "a CUT one: its own half";
        for (int w = 1; w <= 3; w++) {
            SharedSleeves x = Checks.townOf("people 3;coat 0 1 " + w + ";goes 0 0 1 1;goes 1 1 1 1;goes 2 1 1 1;frost 0;");
            Checks.due(sentence + ", not CUT", 1, x.most());
            x.cut(0);
            Checks.due(sentence + ", CUT", 3, x.most());
        }
        SharedSleeves more = Checks.townOf("people 3;coat 0 1 9;coat 1 2 9;goes 0 0 1 1;goes 1 1 1 1;goes 2 1 1 1;");
        more.cut(1);
        Checks.due(sentence + ", the whole one for the third", 7, more.most());
    }

    private static void mostOfErrands() {
        String sentence = "the SET of ERRANDS, the most";
        most(sentence + ", no ERRANDS", "people 2;coat 0 1 9;", 0);
        most(sentence + ", no COATS", "people 2;goes 0 0 1 1;", 0);
        most(sentence + ", no PERSONS", "", 0);
        most(sentence + ", the short ones", "people 2;coat 0 1 9;goes 0 0 0 9;goes 1 0 1 1;goes 1 0 5 5;", 6);
        most(sentence + ", as many: the least SET", "people 2;coat 0 1 9;goes 0 0 0 3;goes 0 0 4 9;goes 1 0 1 1;goes 1 0 5 5;", 3);
        StringBuilder ten = new StringBuilder("people 2;coat 0 1 9;");
        for (int hour = 0; hour < 9; hour++) {
            ten.append("goes ").append(hour % 2).append(" 0 ").append(hour).append(' ').append(hour).append(';');
        }
        most(sentence + ", nine", ten.toString(), 511);
        most(sentence + ", ten", ten + "goes 1 0 23 23;", 1023);
        most(sentence + ", but the last", ten + "goes 1 0 0 0;", 511);
    }

    private static void leastOfErrands() {
        String sentence = "of like ones the least SET";
        most(sentence + ", not the first by ERRANDS", "people 3;coat 0 1 9;coat 0 1 9;goes 0 0 5 5;goes 1 0 5 5;goes 2 0 7 7;", 3);
        most(sentence, "people 3;coat 0 1 9;coat 1 2 9;goes 0 0 1 3;goes 1 0 1 3;goes 2 0 1 3;", 3);
        most(sentence, "people 4;coat 0 1 9;coat 2 3 9;goes 0 0 1 3;goes 1 0 3 4;goes 2 0 1 3;goes 3 0 3 4;", 5);
        most(sentence + ", of four pairs", "people 4;coat 0 1 9;coat 2 3 9;goes 0 0 1 1;goes 1 0 1 1;goes 2 0 1 1;goes 3 0 1 1;", 5);
        most(sentence + ", the later of two left out", "people 4;coat 0 1 9;coat 3 2 9;goes 3 0 1 1;goes 0 0 1 1;goes 2 0 2 2;goes 1 0 1 1;", 7);
    }

    private static void gains() {
        String sentence = "by how much CHILL of a DAY is less, if it is CUT (may be below 0)";
        String apart = "people 2;coat 0 1 20;goes 0 0 0 0;goes 1 1 0 0;";
        SharedSleeves x = Checks.townOf(apart + "frost 9;");
        int[][] frostAndGain = {{0, 0}, {1, 1}, {9, 9}, {10, 10}, {11, 9}, {19, 1}, {20, 0}, {21, 0}, {99, 0}};
        for (int[] row : frostAndGain) {
            x.frost(row[0]);
            Checks.due(sentence + ", FROST " + row[0], row[1], x.gain(0));
            Checks.due(sentence + ": nothing is CUT", 0, x.told(5));
        }
        SharedSleeves one = Checks.townOf("people 2;coat 0 1 21;goes 0 0 0 1;");
        int[][] frostAndLoss = {{9, 0}, {10, 0}, {11, -2}, {21, -22}, {22, -22}, {99, -22}};
        for (int[] row : frostAndLoss) {
            one.frost(row[0]);
            Checks.due(sentence + ", FROST " + row[0], row[1], one.gain(0));
        }
        one.cut(0);
        Checks.due("CUT GAIN of what is CUT", NOT, one.gain(0));
        Checks.due("CUT GAIN of nobody OUT", 0, Checks.townOf("people 2;coat 0 1 21;").gain(0));
    }

    private static void bestOfGains() {
        String sentence = "BEST CUT: the greatest; of like ones the least; NONE without COATS that are not CUT";
        Checks.due(sentence + ", no PERSONS", NONE, new SharedSleeves().best());
        Checks.due(sentence + ", no COATS", NONE, Checks.townOf("people 8;").best());
        Checks.due(sentence + ", one", 0, Checks.townOf("people 2;coat 0 1 9;").best());
        SharedSleeves alike = Checks.townOf("people 2;" + "coat 0 1 9;".repeat(8));
        for (int c = 0; c < 8; c++) {
            Checks.due(sentence + ", alike", c, alike.best());
            alike.cut(c);
        }
        Checks.due(sentence + ", all are CUT", NONE, alike.best());
        String two = "people 4;coat 0 1 20;coat 2 3 20;goes 0 0 0 0;goes 1 1 0 0;goes 2 0 0 ";
        SharedSleeves last = Checks.townOf(two + "1;goes 3 1 0 1;frost 10;");
        Checks.due(sentence + ", the greatest", 10, last.gain(0));
        Checks.due(sentence + ", the greatest", 20, last.gain(1));
        Checks.due(sentence + ", the greatest", 1, last.best());
        SharedSleeves like = Checks.townOf(two + "0;goes 3 1 0 0;frost 10;");
        Checks.due(sentence + ", like ones", 0, like.best());
        like.cut(0);
        Checks.due(sentence + ", that are not CUT", 1, like.best());
        SharedSleeves below = Checks.townOf("people 3;coat 0 1 9;coat 1 2 7;goes 0 0 0 0;goes 2 0 1 1;frost 9;");
        Checks.due(sentence + ", below 0", -5, below.gain(0));
        Checks.due(sentence + ", below 0", -4, below.gain(1));
        Checks.due(sentence + ", the greatest below 0", 1, below.best());
    }
}
