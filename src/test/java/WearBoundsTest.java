/** Terms 2 and promises 10 to 15, sentence by sentence: each boundary that one names, at it and on both sides. */
public final class WearBoundsTest {
    private static final int NONE = SharedSleeves.NONE;
    private static final int UNKNOWN = SharedSleeves.UNKNOWN;
    private static final int NOT = SharedSleeves.NOT;
    private static final int CHAIN = 0;
    private static final int WHEEL = 1;
    private static final int KNOT = 2;

    public static void main(String[] args) {
        outInHours();
        byOneWhoIsOut();
        sideBySideAtOnePlace();
        nobodyWearsTwo();
        cutInHalves();
        chillNoneAtLeast();
        halvesCutTowardsNone();
        chillOfWhoIsNotOut();
        leastOfAllTogether();
        firstOfLikeWearings();
        firstOfLikeHalves();
        ofAllHours();
        chillAddsUp();
        oneAloneIsChain();
        twoWithSeveralCoats();
        chains();
        wheels();
        knots();
        notCutOnes();
        netsCounted();
        sold();
        frosts();
        Checks.finish("WearBoundsTest");
    }

    private static void hour(String sentence, SharedSleeves x, int hour, int chill, int... worn) {
        Checks.due(sentence + ": CHILL of all in HOUR " + hour, chill, x.worn(hour, NONE));
        for (int c = 0; c < worn.length; c++) {
            Checks.due(sentence + ": COAT " + c + " in HOUR " + hour, worn[c], x.worn(hour, c));
        }
    }

    private static void hourOf(String sentence, String text, int chill, int... worn) {
        hour(sentence + " '" + text + "'", Checks.townOf(text), 0, chill, worn);
    }

    private static void outInHours() {
        String sentence = "OUT: in an HOUR those with an ERRAND then, at its PLACE";
        SharedSleeves x = Checks.townOf("people 2;coat 0 1 9;goes 1 5 3 4;goes 1 2 5 5;goes 0 0 0 0;goes 0 4 23 23;frost 10;");
        hour(sentence, x, 2, 0, 0);
        hour(sentence, x, 3, 1, 2);
        hour(sentence, x, 4, 1, 2);
        hour(sentence, x, 5, 1, 2);
        hour(sentence, x, 6, 0, 0);
        hour(sentence, x, 0, 1, 1);
        hour(sentence, x, 1, 0, 0);
        hour(sentence, x, 22, 0, 0);
        hour(sentence, x, 23, 1, 1);
        int[] places = {NONE, NONE, NONE, 5, 5, 2, NONE};
        for (int hour = 0; hour < places.length; hour++) {
            Checks.due(sentence, places[hour], x.where(1, hour));
        }
    }

    private static void byOneWhoIsOut() {
        String sentence = "worn by nobody, by one of its two who is OUT";
        hourOf(sentence, "people 3;coat 0 1 9;frost 10;", 0, 0);
        hourOf(sentence, "people 3;coat 0 1 9;goes 0 0 0 0;frost 10;", 1, 1);
        hourOf(sentence, "people 3;coat 0 1 9;goes 1 0 0 0;frost 10;", 1, 2);
        hourOf(sentence, "people 3;coat 0 1 9;goes 2 0 0 0;frost 10;", 10, 0);
        hourOf(sentence, "people 3;coat 0 1 9;goes 2 0 0 0;goes 1 0 0 0;frost 10;", 11, 2);
    }

    private static void sideBySideAtOnePlace() {
        String sentence = "side by side by both, if both are OUT at one PLACE";
        for (int place = 0; place < 6; place++) {
            hourOf(sentence, "people 2;coat 0 1 8;goes 0 " + place + " 0 0;goes 1 " + place + " 0 0;frost 4;", 0, 3);
            hourOf(sentence, "people 2;coat 0 1 8;goes 0 " + place + " 0 0;goes 1 " + (place + 1) % 6 + " 0 0;frost 4;", 4, 1);
        }
        hourOf(sentence, "people 2;coat 0 1 8;goes 0 3 0 0;goes 1 3 1 1;frost 4;", 0, 1);
        hourOf(sentence, "people 2;coat 0 1 8;goes 0 3 1 1;goes 1 3 0 0;frost 4;", 0, 2);
        hourOf(sentence, "people 2;coat 0 1 8;frost 4;", 0, 0);
    }

    private static void nobodyWearsTwo() {
        String sentence = "nobody wears two";
        hourOf(sentence, "people 2;coat 0 1 5;coat 0 1 7;goes 0 0 0 0;frost 12;", 5, 0, 1);
        hourOf(sentence, "people 2;coat 0 1 7;coat 0 1 5;goes 0 0 0 0;frost 12;", 5, 1, 0);
        hourOf(sentence, "people 2;coat 0 1 7;coat 1 0 5;goes 1 0 0 0;frost 12;", 5, 2, 0);
        hourOf(sentence, "people 3;coat 0 1 8;coat 1 2 3;goes 0 0 0 0;goes 1 0 0 0;frost 4;", 0, 3, 0);
        hourOf(sentence, "people 3;coat 0 1 8;coat 1 2 3;goes 0 0 0 0;goes 1 0 0 0;frost 9;", 7, 1, 1);
        hourOf(sentence + ", as many as they like", "people 2;coat 0 1 5;coat 1 0 6;goes 0 0 0 0;goes 1 1 0 0;frost 9;", 7, 1, 1);
        SharedSleeves halves = Checks.townOf("people 3;coat 0 1 9;coat 0 2 12;goes 0 0 0 0;frost 20;");
        halves.cut(0);
        halves.cut(1);
        hour(sentence + ", nor two halves", halves, 0, 14, 0, 1);
        SharedSleeves mixed = Checks.townOf("people 3;coat 0 1 40;coat 0 2 12;goes 0 0 0 0;frost 50;");
        mixed.cut(0);
        hour(sentence + ", nor a half and a whole one", mixed, 0, 30, 1, 0);
        mixed.cut(1);
        hour(sentence + ", nor two halves", mixed, 0, 30, 1, 0);
    }

    private static void cutInHalves() {
        String sentence = "CUT: two halves, each with W / 2 for its own one alone";
        for (int place = 0; place < 2; place++) {
            SharedSleeves x = Checks.townOf("people 2;coat 0 1 8;goes 0 0 0 1;goes 1 " + place + " 0 0;goes 1 1 2 2;frost 30;");
            x.cut(0);
            hour(sentence, x, 0, 52, 3);
            hour(sentence, x, 1, 26, 1);
            hour(sentence, x, 2, 26, 2);
            hour(sentence, x, 3, 0, 0);
            Checks.due(sentence, 26, x.chill(0, 0));
            Checks.due(sentence, 26, x.chill(1, 0));
            Checks.due(sentence, 26, x.chill(0, 1));
        }
        SharedSleeves uncut = Checks.townOf("people 2;coat 0 1 8;goes 0 0 1 1;frost 30;");
        hour("not CUT: W alone", uncut, 1, 22, 1);
    }

    private static void chillNoneAtLeast() {
        String sentence = "FROST less WARMTH of what it wears, 0 at least";
        SharedSleeves x = Checks.townOf("people 3;coat 0 1 9;goes 0 0 0 0;goes 2 0 0 0;");
        int[][] frostAndChill = {{0, 0}, {1, 0}, {8, 0}, {9, 0}, {10, 1}, {11, 2}, {98, 89}, {99, 90}};
        for (int[] row : frostAndChill) {
            x.frost(row[0]);
            Checks.due(sentence + ", FROST " + row[0], row[1], x.chill(0, 0));
            Checks.due("0 without: all the FROST", row[0], x.chill(2, 0));
            Checks.due(sentence + " of all, FROST " + row[0], row[0] + row[1], x.worn(0, NONE));
        }
        SharedSleeves warm = Checks.townOf("people 2;coat 0 1 99;goes 0 0 0 0;frost 99;");
        Checks.due(sentence, 0, warm.chill(0, 0));
        SharedSleeves thin = Checks.townOf("people 2;coat 0 1 1;goes 0 0 0 0;frost 99;");
        Checks.due(sentence, 98, thin.chill(0, 0));
    }

    private static void halvesCutTowardsNone() {
        String sentence = "W / 2 each side by side; / cuts towards 0";
        String both = "goes 0 0 0 0;goes 1 0 0 0;frost ";
        hourOf(sentence, "people 2;coat 0 1 6;" + both + "3;", 0, 3);
        hourOf(sentence, "people 2;coat 0 1 7;" + both + "3;", 0, 3);
        hourOf(sentence, "people 2;coat 0 1 7;" + both + "4;", 2, 3);
        hourOf(sentence, "people 2;coat 0 1 8;" + both + "4;", 0, 3);
        hourOf(sentence, "people 2;coat 0 1 1;" + both + "1;", 1, 1);
        hourOf(sentence, "people 2;coat 0 1 2;" + both + "1;", 0, 3);
        hourOf(sentence, "people 2;coat 0 1 3;" + both + "2;", 2, 1);
        hourOf(sentence, "people 2;coat 0 1 99;" + both + "49;", 0, 3);
        hourOf(sentence, "people 2;coat 0 1 99;" + both + "50;", 2, 3);
        int[] halves = {0, 0, 1, 1, 2, 2, 3};
        for (int w = 1; w < halves.length; w++) {
            SharedSleeves x = Checks.townOf("people 2;coat 0 1 " + w + ";goes 1 0 0 0;frost 50;");
            Checks.due("alone, not CUT: W", 50 - w, x.chill(1, 0));
            x.cut(0);
            Checks.due("CUT: W / 2", 50 - halves[w], x.chill(1, 0));
            Checks.due("CUT: of like ones none", halves[w] == 0 ? 0 : 2, x.worn(0, 0));
        }
    }

    private static void chillOfWhoIsNotOut() {
        String sentence = "CHILL is 0 for who is not OUT";
        SharedSleeves x = Checks.townOf("people 2;coat 0 1 9;goes 0 0 5 6;frost 99;");
        int[] chills = {0, 90, 90, 0};
        for (int i = 0; i < chills.length; i++) {
            Checks.due(sentence, chills[i], x.chill(0, 4 + i));
            Checks.due(sentence, chills[i], x.worn(4 + i, NONE));
            Checks.due(sentence, 0, x.chill(1, 4 + i));
        }
        Checks.due(sentence, 180, x.told(8));
        SharedSleeves bare = Checks.townOf("people 3;" + "coat 0 1 9;".repeat(8) + "goes 2 0 5 5;frost 99;");
        Checks.due("0 without", 99, bare.chill(2, 5));
        Checks.due("0 without", 0, bare.chill(2, 4));
    }

    private static void leastOfAllTogether() {
        String sentence = "the least CHILL of all together";
        hourOf(sentence + ", not of the first alone", "people 3;coat 0 1 20;coat 0 2 5;goes 0 0 0 0;goes 1 1 0 0;frost 30;", 35, 2, 1);
        hourOf(sentence + ", by one", "people 3;coat 0 1 6;coat 0 2 5;goes 0 0 0 0;goes 2 1 0 0;frost 30;", 49, 1, 2);
        hourOf(sentence + ", side by side by one more", "people 2;coat 0 1 10;goes 0 0 0 0;goes 1 0 0 0;frost 9;", 8, 3);
        hourOf(sentence + ", alone and side by side alike", "people 2;coat 0 1 10;goes 0 0 0 0;goes 1 0 0 0;frost 10;", 10, 1);
        hourOf(sentence + ", a warm coat wears no warmer", "people 2;coat 0 1 99;coat 0 1 10;goes 0 0 0 0;frost 10;", 0, 0, 1);
        StringBuilder ring = new StringBuilder("people 8;");
        for (int p = 0; p < 8; p++) {
            ring.append("coat ").append(p).append(' ').append((p + 1) % 8).append(" 9;goes ").append(p).append(" 0 0 23;");
        }
        hourOf(sentence + ", eight in eight", ring + "frost 9;", 0, 1, 1, 1, 1, 1, 1, 1, 1);
        hourOf(sentence + ", eight in eight", ring + "frost 4;", 0, 0, 1, 1, 1, 1, 1, 1, 3);
    }

    private static void firstOfLikeWearings() {
        String sentence = "of like ones the first (COAT by COAT: nobody, the left one, the right one, both side by side)";
        hourOf(sentence + " nobody", "people 2;coat 0 1 9;goes 0 0 0 0;goes 1 0 0 0;frost 0;", 0, 0);
        hourOf(sentence + " not nobody", "people 2;coat 0 1 9;goes 0 0 0 0;goes 1 0 0 0;frost 1;", 0, 3);
        hourOf(sentence + " left", "people 2;coat 0 1 9;goes 0 0 0 0;goes 1 1 0 0;frost 9;", 9, 1);
        hourOf(sentence + " left, not both", "people 2;coat 0 1 8;goes 0 0 0 0;goes 1 0 0 0;frost 8;", 8, 1);
        hourOf(sentence + " both, if less", "people 2;coat 0 1 8;goes 0 0 0 0;goes 1 0 0 0;frost 7;", 6, 3);
        hourOf(sentence + " the first coat nobody", "people 2;coat 0 1 9;coat 0 1 9;goes 0 0 0 0;frost 9;", 0, 0, 1);
        hourOf(sentence + " the first coat left", "people 2;coat 0 1 9;coat 0 1 9;goes 0 0 0 0;goes 1 0 0 0;frost 9;", 0, 1, 2);
        hourOf(sentence + " the first coat ahead of the second", "people 3;coat 0 1 9;coat 1 2 9;coat 0 2 9;goes 0 0 0 0;goes 1 1 0 0;goes 2 2 0 0;frost 9;",
            0, 1, 1, 2);
        hourOf(sentence + " right ahead of both", "people 3;coat 0 1 8;coat 0 2 4;goes 0 0 0 0;goes 1 0 0 0;frost 8;", 4, 2, 1);
        hourOf(sentence + " nobody ahead of left", "people 3;coat 0 1 5;coat 0 2 5;coat 1 2 5;goes 0 0 0 0;goes 1 1 0 0;frost 5;", 0, 0, 1, 1);
    }

    private static void firstOfLikeHalves() {
        String sentence = "a CUT one: none, left half, right half, both halves";
        String two = "goes 0 0 0 0;goes 1 1 0 0;frost 20;";
        SharedSleeves x = Checks.townOf("people 2;coat 0 1 10;coat 0 1 5;" + two);
        x.cut(0);
        hour(sentence + " left half first", x, 0, 30, 1, 2);
        SharedSleeves last = Checks.townOf("people 2;coat 0 1 5;coat 0 1 10;" + two);
        last.cut(1);
        hour(sentence + " the whole one nobody, then both halves", last, 0, 30, 0, 3);
        SharedSleeves right = Checks.townOf("people 3;coat 0 1 10;coat 0 2 5;" + two);
        right.cut(0);
        hour(sentence + " right half ahead of both", right, 0, 30, 2, 1);
        SharedSleeves none = Checks.townOf("people 3;coat 0 1 10;coat 0 2 5;coat 1 2 5;" + two);
        none.cut(0);
        hour(sentence + " none ahead of left half", none, 0, 30, 0, 1, 1);
        SharedSleeves thin = Checks.townOf("people 2;coat 0 1 1;" + two);
        thin.cut(0);
        hour(sentence + " none, if it does not warm", thin, 0, 40, 0);
        SharedSleeves warm = Checks.townOf("people 2;coat 0 1 2;" + two);
        warm.cut(0);
        hour(sentence + " both halves, if they warm", warm, 0, 38, 3);
        warm.frost(0);
        hour(sentence + " none without FROST", warm, 0, 0, 0);
    }

    private static void ofAllHours() {
        String sentence = "A DAY: CHILL of all HOURS";
        Checks.due(sentence, 0, Checks.townOf("people 1;frost 9;").told(8));
        for (int hour = 0; hour < 24; hour++) {
            Checks.due(sentence, 9, Checks.townOf("people 1;goes 0 0 " + hour + " " + hour + ";frost 9;").told(8));
        }
        Checks.due(sentence, 24 * 99, Checks.townOf("people 1;goes 0 0 0 23;frost 99;").told(8));
        Checks.due(sentence, 23 * 99, Checks.townOf("people 1;goes 0 0 0 22;frost 99;").told(8));
        Checks.due(sentence, 23 * 99, Checks.townOf("people 1;goes 0 0 1 23;frost 99;").told(8));
        StringBuilder all = new StringBuilder("people 8;");
        for (int p = 0; p < 8; p++) {
            all.append("goes ").append(p).append(" 0 0 23;");
        }
        Checks.due(sentence, 8 * 24 * 99, Checks.townOf(all + "frost 99;").told(8));
        SharedSleeves moving = Checks.townOf("people 2;coat 0 1 8;goes 0 0 0 3;goes 1 1 1 1;goes 1 0 2 2;frost 4;");
        Checks.due(sentence + ", each by its PLACES", 4, moving.told(8));
        moving.frost(5);
        Checks.due(sentence + ", each by its PLACES", 7, moving.told(8));
    }

    private static void chillAddsUp() {
        String sentence = "CHILL of one by BEST WEARING";
        SharedSleeves x = Checks.townOf("people 4;coat 0 1 9;coat 1 2 12;coat 2 3 7;goes 0 0 0 3;goes 1 0 1 4;goes 2 1 0 2;goes 2 0 3 5;goes 3 0 4 5;frost 8;");
        for (int cut = 0; cut < 3; cut++) {
            int day = 0;
            for (int hour = 0; hour < 24; hour++) {
                int sum = 0;
                for (int p = 0; p < 4; p++) {
                    sum += x.chill(p, hour);
                }
                Checks.due(sentence + " adds up in HOUR " + hour, x.worn(hour, NONE), sum);
                day += sum;
            }
            Checks.due(sentence + " adds up", x.told(8), day);
            x.cut(cut);
        }
    }

    private static void net(String sentence, String text, int p, int people, int coats, int kind, int minutes) {
        SharedSleeves x = Checks.townOf(text);
        Checks.due(sentence + " PERSONS '" + text + "'", people, x.net(p, 0));
        Checks.due(sentence + " COATS '" + text + "'", coats, x.net(p, 1));
        Checks.due(sentence + " kind '" + text + "'", kind, x.net(p, 2));
        Checks.due(sentence + " minutes '" + text + "'", minutes, x.net(p, 3));
    }

    private static void oneAloneIsChain() {
        String sentence = "one alone is a CHAIN";
        for (int n = 1; n <= 8; n++) {
            net(sentence, "people " + n + ";", n - 1, 1 << n - 1, 0, CHAIN, 1);
        }
        SharedSleeves x = Checks.townOf("people 2;coat 0 1 9;");
        x.cut(0);
        Checks.due(sentence, CHAIN, x.net(0, 2));
        Checks.due(sentence, 1, x.net(1, 3));
    }

    private static void twoWithSeveralCoats() {
        String sentence = "else a KNOT (also two with several COATS)";
        net("k 2, one COAT", "people 2;coat 0 1 9;", 0, 3, 1, CHAIN, 1);
        net(sentence, "people 2;coat 0 1 9;coat 0 1 9;", 0, 3, 3, KNOT, 4);
        net(sentence, "people 2;coat 0 1 9;coat 1 0 9;coat 0 1 9;", 1, 3, 7, KNOT, 5);
        net(sentence, "people 2;" + "coat 1 0 9;".repeat(8), 1, 3, 255, KNOT, 10);
    }

    private static String row(int k) {
        StringBuilder text = new StringBuilder("people 8;");
        for (int p = 0; p + 1 < k; p++) {
            text.append("coat ").append(p).append(' ').append(p + 1).append(" 9;");
        }
        return text.toString();
    }

    private static void chains() {
        String sentence = "CHAIN: c is k less 1 and nobody has more than two; (k and 1) / 2";
        int[] minutes = {0, 1, 1, 2, 2, 3, 3, 4, 4};
        for (int k = 1; k <= 8; k++) {
            for (int p = 0; p < k; p++) {
                net(sentence, row(k), p, (1 << k) - 1, (1 << k - 1) - 1, CHAIN, minutes[k]);
            }
        }
        net(sentence + ", three of one", "people 4;coat 0 1 9;coat 0 2 9;coat 0 3 9;", 2, 15, 7, KNOT, 7);
        net(sentence + ", two of one", "people 4;coat 0 1 9;coat 0 2 9;coat 2 3 9;", 2, 15, 7, CHAIN, 2);
        net(sentence + ", by any row of them", "people 8;coat 6 7 9;coat 0 1 9;coat 5 6 9;coat 2 1 9;coat 4 5 9;coat 2 3 9;coat 4 3 9;", 7, 255, 127, CHAIN, 4);
    }

    private static void wheels() {
        String sentence = "WHEEL: k is above 2, c is k and everybody has two; k";
        for (int k = 3; k <= 8; k++) {
            net(sentence, row(k) + "coat 0 " + (k - 1) + " 9;", k - 1, (1 << k) - 1, (1 << k) - 1, WHEEL, k);
        }
        net("k 2, c 2: no WHEEL", row(2) + "coat 1 0 9;", 1, 3, 3, KNOT, 4);
    }

    private static void knots() {
        String sentence = "else a KNOT; k and c";
        net(sentence + ", c is k, but one has three", row(4) + "coat 0 2 9;", 3, 15, 15, KNOT, 8);
        net(sentence + ", c is k, but one has one", "people 3;coat 0 1 9;coat 0 1 9;coat 1 2 9;", 2, 7, 7, KNOT, 6);
        net(sentence + ", c is above k", row(3) + "coat 0 2 9;coat 0 2 9;", 0, 7, 15, KNOT, 7);
        net(sentence + ", c is above k", row(4) + "coat 0 3 9;coat 0 2 9;", 0, 15, 31, KNOT, 9);
        net(sentence + ", of eight", "people 8;" + "coat 0 1 9;coat 0 2 9;coat 0 3 9;coat 0 4 9;coat 0 5 9;coat 0 6 9;coat 0 7 9;coat 6 7 9;", 5, 255, 255, KNOT, 16);
        net("another NET is not counted in", "people 5;coat 0 1 9;coat 2 3 9;coat 3 4 9;coat 2 4 9;", 1, 3, 1, CHAIN, 1);
        net("another NET is not counted in", "people 5;coat 0 1 9;coat 2 3 9;coat 3 4 9;coat 2 4 9;", 4, 28, 14, WHEEL, 3);
    }

    private static void notCutOnes() {
        String sentence = "coupled by COATS (not CUT ones)";
        SharedSleeves x = Checks.townOf(row(4) + "coat 0 3 9;coat 0 2 9;");
        Checks.due(sentence, KNOT, x.net(0, 2));
        x.cut(4);
        Checks.due(sentence, WHEEL, x.net(0, 2));
        Checks.due(sentence, 15, x.net(0, 1));
        x.cut(3);
        Checks.due(sentence, CHAIN, x.net(0, 2));
        Checks.due(sentence, 7, x.net(0, 1));
        Checks.due(sentence, 5, x.told(9));
        x.cut(1);
        Checks.due(sentence, 3, x.net(0, 0));
        Checks.due(sentence, 12, x.net(3, 0));
        Checks.due(sentence, 4, x.net(3, 1));
        Checks.due(sentence, 6, x.told(9));
    }

    private static void netsCounted() {
        String sentence = "NETS";
        for (int n = 1; n <= 8; n++) {
            Checks.due(sentence + ", each one alone", n, Checks.townOf("people " + n + ";").told(9));
            Checks.due(sentence + ", a row of " + n, 9 - n, Checks.townOf(row(n)).told(9));
        }
        Checks.due(sentence + ", no PERSONS", 0, Checks.townOf("").told(9));
        Checks.due(sentence + ", one through another", 2, Checks.townOf("people 3;coat 0 2 9;").told(9));
        Checks.due(sentence + ", one through another", 3, Checks.townOf("people 7;coat 0 6 9;coat 1 5 9;coat 2 4 9;coat 4 0 9;").told(9));
    }

    private static void sold() {
        SharedSleeves x = Checks.townOf("people 4;coat 0 1 9;coat 2 3 9;likes 2 1 5;goes 2 0 1 1;frost 9;");
        Checks.due("SOLD: whose it was", 0, x.sell(0, 0, 2));
        Checks.due("becomes another PERSON's", 2, x.coat(0, 0));
        Checks.due("0 left: the right one stays", 1, x.coat(0, 1));
        Checks.due("the other COAT stays", 2, x.coat(1, 0));
        Checks.due("SOLD: WISH", 5, x.wish(2));
        Checks.due("SOLD: NETS", 14, x.net(3, 0));
        Checks.due("SOLD: worn", 0, x.worn(1, 0));
        Checks.due("its own already", NOT, x.sell(0, 0, 2));
        Checks.due("the other SLEEVE's", NOT, x.sell(0, 1, 2));
        Checks.due("the other SLEEVE's", NOT, x.sell(0, 0, 1));
        Checks.due("its own already", NOT, x.sell(0, 1, 1));
        Checks.due("1 right: whose it was", 1, x.sell(0, 1, 3));
        Checks.due("1 right", 3, x.coat(0, 1));
        Checks.due("1 right: the left one stays", 2, x.coat(0, 0));
        Checks.due("whom there is not", UNKNOWN, x.sell(0, 1, 4));
        Checks.due("back again", 2, x.sell(0, 0, 0));
        Checks.due("a COAT that is not CUT", 1, x.cut(0));
        Checks.due("CUT", NOT, x.sell(0, 1, 2));
        Checks.due("another that is not CUT", 3, x.sell(1, 1, 0));
    }

    private static void frosts() {
        SharedSleeves x = Checks.townOf("people 2;");
        Checks.due("FROST becomes v: what it was", 20, x.frost(0));
        Checks.due("FROST becomes v: what it was", 0, x.frost(1));
        Checks.due("FROST becomes v: what it was", 1, x.frost(98));
        Checks.due("FROST becomes v: what it was", 98, x.frost(99));
        Checks.due("v 0 .. 99", SharedSleeves.OUTSIDE, x.frost(100));
        Checks.due("v 0 .. 99", SharedSleeves.OUTSIDE, x.frost(-1));
        Checks.due("FROST becomes v: what it was", 99, x.frost(99));
    }
}
