/**
 * Terms 1 and promises 2 to 9, sentence by sentence: each boundary that one names, at it and on both sides.
 * In the texts here a '^' stands ahead of the byte that has the fault; it is not fed.
 */
public final class TextBoundsTest {
    private static final int NONE = SharedSleeves.NONE;
    private static final int OUTSIDE = SharedSleeves.OUTSIDE;
    private static final int FULL = SharedSleeves.FULL;
    private static final String[] CLAUSES = {"people 3;", "coat 0 1 9;", "goes 2 5 7 8;", "likes 1 0 6;", "frost 4;"};

    public static void main(String[] args) {
        textOfFourHundredBytes();
        lowestBytesHighestFirst();
        peopleOneToEight();
        peopleFirstAndOnce();
        personsThatThereAre();
        anotherPerson();
        warmthOneToNinetyNine();
        eightCoats();
        placesNoneToFive();
        hoursNoneToTwentyThree();
        lastHourNotBelowFirst();
        noHourTwice();
        tenErrands();
        likesNoneToNinetyNine();
        eachLikesOnce();
        thirtyLikes();
        frostNoneToNinetyNine();
        frostOnce();
        numbersOfOneToThreeFigures();
        wordsOfSmallLetters();
        blanksBetween();
        noBlanksWithin();
        nothingButBlanks();
        sideBySide();
        endOfText();
        firstByteOfAll();
        leastOfOneByte();
        noText();
        whatTownLeaves();
        townAfterTown();
        placeOfTheLatest();
        Checks.finish("TextBoundsTest");
    }

    private static SharedSleeves whole(String sentence, String text) {
        SharedSleeves x = new SharedSleeves();
        Checks.feed(x, text);
        Checks.due(sentence + ": no fault in '" + text + "'", 1, x.town() >= 0 ? 1 : 0);
        Checks.due(sentence + ": no place in '" + text + "'", NONE, x.fault());
        return x;
    }

    private static void fault(String sentence, int number, String marked) {
        int place = marked.indexOf('^');
        String text = marked.substring(0, place) + marked.substring(place + 1);
        SharedSleeves x = new SharedSleeves();
        Checks.feed(x, text);
        Checks.due(sentence + ": town of '" + marked + "'", -10 - number, x.town());
        Checks.due(sentence + ": fault of '" + marked + "'", place, x.fault());
    }

    private static String blanks(int n) {
        return " ".repeat(n);
    }

    private static void textOfFourHundredBytes() {
        String sentence = "400 bytes at most; FULL (400)";
        String text = "people 7;" + blanks(375);
        SharedSleeves x = new SharedSleeves();
        Checks.feed(x, text);
        Checks.due(sentence, 384, x.told(3));
        Checks.due(sentence, 392, x.feed(8, 0x2020202020202020L));
        Checks.due(sentence, 393, x.feed(1, 0x20L));
        Checks.due(sentence + " one too many", FULL, x.feed(8, 0x7878787878787878L));
        Checks.due(sentence + " nothing came", 393, x.told(3));
        Checks.due(sentence + " just as many", 400, x.feed(7, 0x20202020202020L));
        Checks.due(sentence + " none more", FULL, x.feed(1, 0x78L));
        Checks.due(sentence, 400, x.told(3));
        Checks.due(sentence + " all of them are read", 0, x.town());
        Checks.due(sentence, 7, x.told(0));
        Checks.due(sentence + " room again", 8, x.feed(8, 0x2020202020202020L));
        Checks.feed(x, blanks(391));
        Checks.due(sentence, 400, x.feed(1, 0x78L));
        Checks.due(sentence + " the last byte is read", -11, x.town());
        Checks.due(sentence + " the last byte is read", 399, x.fault());
        Checks.due(sentence + " empty with a fault, too", 0, x.told(3));
        whole(sentence, "people 2;" + blanks(382) + "frost 30;");
        fault(sentence, 1, "people 2;" + blanks(383) + "frost 30^");
    }

    private static void lowestBytesHighestFirst() {
        String sentence = "the n lowest bytes, the highest of these first";
        long bytes = 0x70656F706C652038L;
        for (int n = 1; n <= 8; n++) {
            SharedSleeves x = new SharedSleeves();
            Checks.feed(x, "people 8".substring(0, 8 - n));
            Checks.due(sentence + " n " + n, 8, x.feed(n, bytes));
            Checks.due(sentence + " n " + n, 9, x.feed(1, -1L << 8 | ';'));
            Checks.due(sentence + " n " + n, 0, x.town());
            Checks.due(sentence + " n " + n, 8, x.told(0));
        }
        for (int n : new int[] {Integer.MIN_VALUE, -1, 0, 9, 10, Integer.MAX_VALUE}) {
            SharedSleeves x = new SharedSleeves();
            Checks.due("n 1 .. 8", OUTSIDE, x.feed(n, bytes));
            Checks.due("n 1 .. 8", 0, x.told(3));
        }
        for (int high = 128; high < 256; high++) {
            SharedSleeves x = new SharedSleeves();
            Checks.due("a byte of " + high, 1, x.feed(1, high));
            Checks.due("a byte of " + high, -11, x.town());
        }
    }

    private static void peopleOneToEight() {
        String sentence = "'people' N 1 .. 8";
        for (int n = 1; n <= 8; n++) {
            SharedSleeves x = whole(sentence, "people " + n + ";");
            Checks.due(sentence, n, x.told(0));
            Checks.due("numbers from 0 on", NONE, x.where(n - 1, 0));
            Checks.due("numbers from 0 on", SharedSleeves.UNKNOWN, x.where(n, 0));
        }
        for (String n : new String[] {"0", "00", "000", "9", "10", "18", "99", "100", "256", "257", "999"}) {
            fault(sentence, 2, "people ^" + n + ";");
        }
    }

    private static void peopleFirstAndOnce() {
        for (String ahead : new String[] {"coat 0 1 9;", "goes 0 0 0 0;", "likes 0 1 9;", "frost 9;", ";", "1", "x"}) {
            fault("'people' first", 1, "^" + ahead + "people 2;");
            fault("'people' first", 1, "  ^" + ahead);
        }
        fault("'people' once", 3, "people 2;^people 2;");
        fault("'people' once", 3, "people 2;coat 0 1 9;frost 3; ^people 3;");
        fault("'people' once", 3, "people 2;^people");
    }

    private static void personsThatThereAre() {
        String sentence = "a PERSON that there is not (at its first)";
        for (int n = 2; n <= 8; n++) {
            String people = "people " + n + ";";
            int last = n - 1;
            whole(sentence, people + "coat " + last + " 0 1;coat 0 " + last + " 1;goes " + last + " 0 0 0;likes " + last
                + " 0 1;likes 0 " + last + " 1;");
            fault(sentence, 2, people + "coat ^" + n + " 0 1;");
            fault(sentence, 2, people + "coat 0 ^" + n + " 1;");
            fault(sentence, 2, people + "goes ^" + n + " 0 0 0;");
            fault(sentence, 2, people + "likes ^" + n + " 0 1;");
            fault(sentence, 2, people + "likes 0 ^" + n + " 1;");
        }
        fault(sentence, 2, "people 8;coat ^100 0 1;");
        fault(sentence, 2, "people 8;coat 0  ^999 1;");
        fault(sentence, 2, "people 8;coat 0  ^008 1;");
        whole(sentence, "people 1;goes 0 0 0 0;");
        fault(sentence, 2, "people 1;goes ^1 0 0 0;");
    }

    private static void anotherPerson() {
        fault("Q like P (at the Q)", 4, "people 1;coat 0 ^0 1;");
        fault("Q like P (at the Q)", 4, "people 8;coat 7 ^7 1;");
        fault("Q like P (at the Q)", 4, "people 8;coat 7 ^007 1;");
        fault("Q like P (at the Q)", 4, "people 8;coat 7 ^7");
        fault("Q like P (at the Q)", 4, "people 1;likes 0 ^0 1;");
        fault("Q like P (at the Q)", 4, "people 8;likes 7 ^7 1;");
        fault("Q like P (at the Q)", 4, "people 8;likes 007 ^07");
        whole("another PERSON Q", "people 8;coat 7 6 1;coat 6 7 1;likes 7 6 1;likes 6 7 1;");
        SharedSleeves x = whole("the left SLEEVE is P's, the right one Q's", "people 8;coat 7 6 5;");
        Checks.due("the left SLEEVE is P's", 7, x.coat(0, 0));
        Checks.due("the right one Q's", 6, x.coat(0, 1));
        Checks.due("WARMTH W", 5, x.coat(0, 2));
        Checks.due("not CUT", 0, x.coat(0, 3));
    }

    private static void warmthOneToNinetyNine() {
        String sentence = "WARMTH W 1 .. 99";
        fault(sentence, 2, "people 2;coat 0 1 ^0;");
        fault(sentence, 2, "people 2;coat 0 1 ^000;");
        Checks.due(sentence, 1, whole(sentence, "people 2;coat 0 1 1;").coat(0, 2));
        Checks.due(sentence, 2, whole(sentence, "people 2;coat 0 1 2;").coat(0, 2));
        Checks.due(sentence, 98, whole(sentence, "people 2;coat 0 1 98;").coat(0, 2));
        Checks.due(sentence, 99, whole(sentence, "people 2;coat 0 1 99;").coat(0, 2));
        fault(sentence, 2, "people 2;coat 0 1 ^100;");
        fault(sentence, 2, "people 2;coat 0 1 ^999;");
    }

    private static void eightCoats() {
        String seven = "people 2;" + "coat 0 1 9;".repeat(7);
        Checks.due("8 COATS at most", 7, whole("8 COATS at most", seven).told(1));
        SharedSleeves x = whole("8 COATS at most", seven + "coat 1 0 5;frost 9;");
        Checks.due("8 COATS at most", 8, x.told(1));
        Checks.due("8 COATS at most", 1, x.coat(7, 0));
        String sentence = "a ninth COAT (at its first letter)";
        fault(sentence, 3, seven + "coat 1 0 5;^coat 1 0 5;");
        fault(sentence, 3, seven + "coat 1 0 5; ^coat 9 0 5;");
        fault(sentence, 3, seven + "coat 1 0 5; ^coat");
        fault(sentence, 1, seven + "coat 1 0 5; ^coa");
        fault(sentence, 1, seven + "coat 1 0 5; ^coats");
    }

    private static void placesNoneToFive() {
        String sentence = "PLACE S, 0 .. 5";
        Checks.due(sentence, 0, whole(sentence, "people 1;goes 0 0 4 4;").where(0, 4));
        Checks.due(sentence, 1, whole(sentence, "people 1;goes 0 1 4 4;").where(0, 4));
        Checks.due(sentence, 4, whole(sentence, "people 1;goes 0 4 4 4;").where(0, 4));
        Checks.due(sentence, 5, whole(sentence, "people 1;goes 0 5 4 4;").where(0, 4));
        fault(sentence, 2, "people 1;goes 0 ^6 4 4;");
        fault(sentence, 2, "people 1;goes 0 ^100 4 4;");
    }

    private static void hoursNoneToTwentyThree() {
        String sentence = "HOURS F to T, 0 .. 23 both";
        for (int hour : new int[] {0, 1, 22, 23}) {
            SharedSleeves x = whole(sentence, "people 1;goes 0 3 " + hour + " " + hour + ";");
            Checks.due(sentence, hour, x.errand(0, 2));
            Checks.due(sentence, hour, x.errand(0, 3));
            for (int other = 0; other < 24; other++) {
                Checks.due(sentence, other == hour ? 3 : NONE, x.where(0, other));
            }
        }
        fault(sentence, 2, "people 1;goes 0 3 ^24 24;");
        fault(sentence, 2, "people 1;goes 0 3 ^24 23;");
        fault(sentence, 2, "people 1;goes 0 3 23 ^24;");
        fault(sentence, 2, "people 1;goes 0 3 0 ^100;");
        SharedSleeves all = whole(sentence, "people 1;goes 0 3 0 23;");
        for (int hour = 0; hour < 24; hour++) {
            Checks.due(sentence, 3, all.where(0, hour));
        }
    }

    private static void lastHourNotBelowFirst() {
        String sentence = "T not below F; T below F (at the T)";
        fault(sentence, 4, "people 1;goes 0 3 1 ^0;");
        whole(sentence, "people 1;goes 0 3 1 1;");
        whole(sentence, "people 1;goes 0 3 1 2;");
        fault(sentence, 4, "people 1;goes 0 3 23 ^022;");
        fault(sentence, 4, "people 1;goes 0 3 23 ^0");
    }

    private static void noHourTwice() {
        String sentence = "no HOUR twice for one PERSON; an HOUR that is P's already (at the T)";
        String ahead = "people 2;goes 0 1 5 8;";
        whole(sentence, ahead + "goes 0 2 3 4;goes 0 2 9 10;");
        whole(sentence, ahead + "goes 1 1 5 8;");
        whole(sentence, ahead + "goes 1 2 0 23;");
        for (String hours : new String[] {"3 ^5", "4 ^6", "5 ^5", "5 ^8", "6 ^7", "8 ^8", "8 ^9", "4 ^9", "0 ^23"}) {
            fault(sentence, 4, ahead + "goes 0 2 " + hours + ";");
            fault(sentence, 4, ahead + "goes 0 1 " + hours + ";");
            fault(sentence, 4, ahead + "goes 1 1 5 8;goes 0 1 " + hours);
        }
        fault(sentence, 4, "people 1;goes 0 0 0 0;goes 0 0 0 ^0;");
        fault(sentence, 4, "people 1;goes 0 0 23 23;goes 0 0 23 ^23;");
        whole(sentence, "people 1;goes 0 0 23 23;goes 0 0 0 22;");
        SharedSleeves x = whole(sentence, "people 1;goes 0 1 5 8;goes 0 2 9 9;goes 0 3 3 4;");
        int[] places = {NONE, NONE, NONE, 3, 3, 1, 1, 1, 1, 2, NONE};
        for (int hour = 0; hour < places.length; hour++) {
            Checks.due("in HOURS F to T, both", places[hour], x.where(0, hour));
        }
    }

    private static void tenErrands() {
        StringBuilder nine = new StringBuilder("people 2;");
        for (int hour = 0; hour < 9; hour++) {
            nine.append("goes 0 1 ").append(hour).append(' ').append(hour).append(';');
        }
        Checks.due("10 ERRANDS at most", 9, whole("10 ERRANDS at most", nine.toString()).told(2));
        SharedSleeves x = whole("10 ERRANDS at most", nine + "goes 1 5 22 23;coat 0 1 9;");
        Checks.due("10 ERRANDS at most", 10, x.told(2));
        Checks.due("10 ERRANDS at most", 22, x.errand(9, 2));
        String sentence = "an 11th ERRAND (at its first letter)";
        fault(sentence, 3, nine + "goes 1 5 22 23;^goes 1 5 0 0;");
        fault(sentence, 3, nine + "goes 1 5 22 23; ^goes 2");
        fault(sentence, 3, nine + "goes 1 5 22 23; ^goes");
        fault(sentence, 1, nine + "goes 1 5 22 23; ^goe");
    }

    private static void likesNoneToNinetyNine() {
        String sentence = "L, 0 .. 99";
        for (int l : new int[] {0, 1, 98, 99}) {
            Checks.due(sentence, l, whole(sentence, "people 2;likes 1 0 " + l + ";").likes(1, 0));
        }
        fault(sentence, 2, "people 2;likes 1 0 ^100;");
        fault(sentence, 2, "people 2;likes 1 0 ^999;");
        SharedSleeves x = whole("0 untold", "people 3;likes 1 0 7;");
        Checks.due("0 untold", 0, x.likes(0, 1));
        Checks.due("0 untold", 0, x.likes(1, 2));
        Checks.due("0 untold", 0, x.likes(2, 0));
    }

    private static void eachLikesOnce() {
        String sentence = "each P Q once; P Q again in 'likes' (at the Q)";
        fault(sentence, 4, "people 3;likes 0 1 7;likes 0 ^1 7;");
        fault(sentence, 4, "people 3;likes 0 1 0;likes 0 ^1 7;");
        fault(sentence, 4, "people 3;likes 2 1 0;likes 0 1 3;likes 2 0 9;likes 002 ^001");
        whole(sentence, "people 3;likes 0 1 7;likes 1 0 7;likes 0 2 7;likes 2 1 7;");
    }

    private static void thirtyLikes() {
        StringBuilder likes = new StringBuilder("people 7;");
        for (int i = 0; i < 29; i++) {
            likes.append("likes ").append(i / 6).append(' ').append((i / 6 + 1 + i % 6) % 7).append(" 1;");
        }
        whole("30 at most", likes.toString());
        Checks.due("30 at most", 9, whole("30 at most", likes + "likes 6 0 9;frost 8;").likes(6, 0));
        String sentence = "a 31st 'likes' (at its first letter)";
        fault(sentence, 3, likes + "likes 6 0 9;^likes 6 1 9;");
        fault(sentence, 3, likes + "likes 6 0 9;  ^likes 6 0 9;");
        fault(sentence, 3, likes + "likes 6 0 9;  ^likes");
        fault(sentence, 1, likes + "likes 6 0 9;  ^like");
    }

    private static void frostNoneToNinetyNine() {
        String sentence = "'frost' C, 0 .. 99 an HOUR";
        for (int v : new int[] {0, 1, 98, 99}) {
            Checks.due(sentence, v, whole(sentence, "people 2;frost " + v + ";").told(4));
        }
        fault(sentence, 2, "people 2;frost ^100;");
        fault(sentence, 2, "people 2;frost ^999;");
        Checks.due("20 untold", 20, whole("20 untold", "people 2;").told(4));
        Checks.due("20 untold", 20, whole("20 untold", "").told(4));
    }

    private static void frostOnce() {
        String sentence = "'frost' again (at its first letter)";
        fault(sentence, 3, "people 2;frost 20;^frost 20;");
        fault(sentence, 3, "people 2;frost 0;coat 0 1 9;  ^frost 0;");
        fault(sentence, 3, "people 2;frost 99;^frost");
        fault(sentence, 1, "people 2;frost 99;^fros");
    }

    private static void numbersOfOneToThreeFigures() {
        String[][] rows = {{"people", "3"}, {"coat", "0", "1", "9"}, {"goes", "2", "5", "7", "8"}, {"likes", "1", "0", "6"}, {"frost", "4"}};
        for (String[] row : rows) {
            String ahead = row[0].equals("people") ? "" : "people 3;";
            for (int k = 1; k < row.length; k++) {
                for (int zeros = 0; zeros < 6; zeros++) {
                    StringBuilder clause = new StringBuilder(ahead).append(row[0]);
                    for (int i = 1; i < row.length; i++) {
                        clause.append(i == k && zeros > 2 ? " ^" : " ").append(i == k ? "0".repeat(zeros) : "").append(row[i]);
                    }
                    clause.append(';');
                    if (zeros <= 2) {
                        whole("NUMBERS have one to three figures", clause.toString());
                    } else {
                        fault("a NUMBER of four figures or more", 2, clause.toString());
                    }
                }
            }
        }
        fault("a NUMBER of four figures or more", 2, "people 3;frost ^10000000000000000000000000000000000000004;");
        fault("a NUMBER of four figures or more", 2, "people ^4294967299;");
        fault("a NUMBER of four figures or more", 2, "people 3;coat 0 1 ^1001");
    }

    private static void wordsOfSmallLetters() {
        String sentence = "words are letters a .. z side by side";
        for (String clause : CLAUSES) {
            String ahead = clause.startsWith("people") ? "" : "people 3;";
            String word = clause.substring(0, clause.indexOf(' '));
            String rest = clause.substring(word.length());
            fault(sentence, 1, ahead + "^" + word.substring(0, word.length() - 1) + rest);
            fault(sentence, 1, ahead + "^" + word.substring(1) + rest);
            fault(sentence, 1, ahead + "^" + word + "a" + rest);
            fault(sentence, 1, ahead + "^" + word + "z" + rest);
            fault(sentence, 1, ahead + "^" + "a" + word + rest);
            fault(sentence, 1, ahead + "^" + word + word + rest);
            fault(sentence, 1, ahead + "^" + word.toUpperCase() + rest);
            fault(sentence, 1, ahead + "^" + word.substring(0, 1).toUpperCase() + word.substring(1) + rest);
            for (int i = 0; i < word.length(); i++) {
                fault(sentence + ", letter " + i, 1, ahead + "^" + word.substring(0, i) + "x" + word.substring(i + 1) + rest);
            }
            for (char beside : new char[] {'`', '{', '_', 'A', 'Z', (char) 233}) {
                fault(sentence, 1, ahead + word + "^" + beside + rest);
                fault(sentence, 1, ahead + "^" + beside + word + rest);
            }
        }
    }

    private static void blanksBetween() {
        String sentence = "blanks may stand anywhere but within words and NUMBERS";
        SharedSleeves x = whole(sentence, "   people   3   ;   coat   0   1   9   ;   goes   2   5   7   8   ;   likes   1   0   6   ;   frost   4   ;   ");
        Checks.due(sentence, 9, x.coat(0, 2));
        Checks.due(sentence, 8, x.errand(0, 3));
        Checks.due(sentence, 6, x.likes(1, 0));
        Checks.due(sentence, 4, x.told(4));
        SharedSleeves none = whole(sentence + ", and need not", "people3;coat0 1 9;goes2 5 7 8;likes1 0 6;frost4;");
        Checks.due(sentence, 9, none.coat(0, 2));
        Checks.due(sentence, 8, none.errand(0, 3));
        Checks.due(sentence, 6, none.likes(1, 0));
        Checks.due(sentence, 4, none.told(4));
    }

    private static void noBlanksWithin() {
        String sentence = "no blanks within words and NUMBERS";
        for (String clause : CLAUSES) {
            String ahead = clause.startsWith("people") ? "" : "people 3;";
            int letters = clause.indexOf(' ');
            for (int k = 1; k < letters; k++) {
                fault(sentence, 1, ahead + "^" + clause.substring(0, k) + " " + clause.substring(k));
            }
        }
        fault(sentence, 1, "people 1 ^3;");
        fault(sentence, 1, "people 3;coat 0 1 9 ^9;");
        fault(sentence, 1, "people 3;goes 0 1 1 1 ^0;");
        fault(sentence, 1, "people 3;likes 0 1 9 ^9;");
        fault(sentence, 1, "people 3;frost 2 ^0;");
    }

    private static void nothingButBlanks() {
        String sentence = "blanks (32) alone may stand between";
        for (int sign = 0; sign < 256; sign++) {
            boolean isFigure = sign >= '0' && sign <= '9';
            boolean isLetter = sign >= 'a' && sign <= 'z';
            if (sign == ' ' || sign == ';' || isFigure || isLetter || sign == '^') {
                continue;
            }
            char c = (char) sign;
            fault(sentence + ": " + sign, 1, "^" + c + "people 3;");
            fault(sentence + ": " + sign, 1, "people^" + c + "3;");
            fault(sentence + ": " + sign, 1, "people 3^" + c + ";");
            fault(sentence + ": " + sign, 1, "people 3;^" + c);
            fault(sentence + ": " + sign, 1, "people 3;coat 0^" + c + "1 9;");
        }
        fault(sentence, 1, "people 3;^;");
        fault(sentence, 1, "people^;3;");
        fault(sentence, 1, "people 3;coat 0^;1 9;");
    }

    private static void sideBySide() {
        String sentence = "two words, two NUMBERS side by side need one";
        fault(sentence, 1, "^peoplecoat 3;");
        fault(sentence, 1, "people 3;^coatcoat 0 1 9;");
        fault(sentence, 2, "people 3;coat 0 ^19;");
        fault(sentence, 2, "people 3;coat ^012 9;");
        fault(sentence, 1, "people 3;coat 01 2^;");
        fault(sentence, 1, "people 3;goes 0 1 15^;");
        whole(sentence, "people 3;goes 0 1 1 5;");
    }

    private static void endOfText() {
        String sentence = "the end at the text's length";
        String text = String.join(" ", CLAUSES);
        boolean inWord = false;
        boolean between = true;
        int wordStart = 0;
        for (int length = 0; length <= text.length(); length++) {
            String start = text.substring(0, length);
            boolean whole = between || length == 0;
            if (whole) {
                whole(sentence, start);
            } else {
                int place = inWord && !isClauseWord(start.substring(wordStart)) ? wordStart : length;
                fault(sentence, 1, start.substring(0, place) + "^" + start.substring(place));
            }
            if (length < text.length()) {
                char next = text.charAt(length);
                boolean letter = next >= 'a' && next <= 'z';
                wordStart = letter && !inWord ? length : wordStart;
                inWord = letter;
                between = next == ';' || next == ' ' && between;
            }
        }
        fault(sentence, 1, "people 3;coat 0 1 9   ^");
        fault(sentence, 1, "people 3;frost^");
    }

    private static boolean isClauseWord(String word) {
        for (String clause : CLAUSES) {
            if (clause.substring(0, clause.indexOf(' ')).equals(word)) {
                return true;
            }
        }
        return false;
    }

    private static void firstByteOfAll() {
        String sentence = "at the first byte that has one";
        fault(sentence, 4, "people 2;coat 1 ^1 0;coat 5");
        fault(sentence, 2, "people 2;coat ^2 2 0;people 2;");
        fault(sentence, 3, "people 2;^people 9;x");
        fault(sentence, 1, "people 2;^x;people 9;");
        fault(sentence, 2, "people ^9;frost 4;frost 5;");
        fault(sentence, 2, "people 2;goes 0 0 ^24 3;");
        fault(sentence, 4, "people 2;goes 0 0 5 ^4;frost 100;");
        fault(sentence, 2, "people 2;likes ^2 2 0;");
    }

    private static void leastOfOneByte() {
        String sentence = "of these the least";
        fault(sentence + ": 1 ahead of 2", 1, "people 2 ^1000;");
        fault(sentence + ": 1 ahead of 2", 1, "^1000;");
        fault(sentence + ": 1 ahead of 3", 1, "people 2 ^people 2;");
        fault(sentence + ": 1 ahead of 3", 1, "people 2;frost 3;coat 0 1 ^frost 3;");
        fault(sentence + ": 1 ahead of 3", 1, "people 2;" + "coat 0 1 9;".repeat(8) + "frost ^coat 0 1 9;");
        fault(sentence + ": 2 ahead of 4, T taken", 2, "people 2;goes 0 0 20 23;goes 0 0 20 ^24;");
        fault(sentence + ": 2 ahead of 4, T below F", 2, "people 2;goes 0 0 20 ^0019;");
        fault(sentence + ": 2 ahead of 4, Q like P", 2, "people 2;coat 0 ^0000 9;");
        fault(sentence + ": 2 ahead of 4, Q like P", 2, "people 2;likes 0 ^0000 9;");
        fault(sentence + ": 2 ahead of 4, P Q again", 2, "people 2;likes 0 1 9;likes 0 ^0001 9;");
        fault(sentence + ": 4 of both kinds", 4, "people 2;goes 0 0 3 9;goes 0 0 9 ^3;");
    }

    private static void noText() {
        String sentence = "an empty text (or of blanks alone): no PERSONS";
        for (int n : new int[] {0, 1, 8, 399, 400}) {
            SharedSleeves x = Checks.townOf("people 3;coat 0 1 9;goes 0 1 2 3;frost 7;");
            x.cut(0);
            Checks.feed(x, blanks(n));
            Checks.due(sentence, 0, x.town());
            Checks.due(sentence, NONE, x.fault());
            int[] due = {0, 0, 0, 0, 20, 0, 0, 0, 0, 0};
            for (int what = 0; what < due.length; what++) {
                Checks.due(sentence + " told " + what, due[what], x.told(what));
            }
        }
        fault("neither empty nor of blanks alone", 1, "^\t");
        fault("neither empty nor of blanks alone", 1, " ^;");
    }

    private static void whatTownLeaves() {
        String sentence = "-10 less the number of its FAULT (all else is as it was)";
        String[] faulty = {"^x", "people ^0;", "people 2;^people 2;", "people 2;coat 0 ^0 1;"};
        SharedSleeves x = Checks.townOf("people 8;coat 7 6 9;goes 7 1 2 3;likes 7 6 5;frost 0;");
        x.see(0, 1, 2);
        x.write(2, 0, 1);
        x.seed(5);
        x.keep(0);
        x.seed(2147483647);
        x.cut(0);
        for (int i = 0; i < faulty.length; i++) {
            int place = faulty[i].indexOf('^');
            Checks.feed(x, faulty[i].substring(0, place) + faulty[i].substring(place + 1));
            Checks.due(sentence, -11 - i, x.town());
            Checks.due(sentence, place, x.fault());
            int[] due = {8, 1, 1, 0, 0, 1, 1, 1};
            for (int what = 0; what < due.length; what++) {
                Checks.due(sentence + " told " + what, due[what], x.told(what));
            }
            Checks.due(sentence, 7, x.coat(0, 0));
            Checks.due(sentence, 1, x.where(7, 3));
            Checks.due(sentence, 5, x.likes(7, 6));
        }
        Checks.due(sentence + " THE SEED", 2147483647, x.seed(0));
        Checks.due(sentence + " IMAGES", 1, x.goBack(0));
        Checks.due(sentence + " IMAGES", 5, x.seed(3));
        Checks.feed(x, "people 2;coat 0 1 5;");
        Checks.due("how many COATS", 1, x.town());
        Checks.due("nothing CUT", 0, x.told(5));
        Checks.due("nothing SEEN", 0, x.told(6));
        Checks.due("no BOOK", 0, x.told(7));
        Checks.due("IMAGES are gone", SharedSleeves.NOT, x.goBack(0));
        Checks.due("IMAGES are gone", SharedSleeves.NOT, x.goBack(1));
        Checks.due("THE SEED stays", 3, x.seed(3));
    }

    private static String greatTown() {
        StringBuilder great = new StringBuilder("people8;frost9;");
        for (int p = 0; p < 8; p++) {
            great.append("coat").append(p).append(' ').append((p + 1) % 8).append(" 99;goes").append(p).append(" 5 0 23;");
        }
        for (int p = 1; p < 8; p++) {
            great.append("likes").append(p).append(" 0 9;likes0 ").append(p).append(" 9;");
        }
        return great.toString();
    }

    /** An object that had the greatest TOWN, more than once, and now has that of a text. */
    private static SharedSleeves usedObject(String sentence, String text, int greatTowns) {
        SharedSleeves x = new SharedSleeves();
        for (int i = 0; i < greatTowns; i++) {
            Checks.feed(x, greatTown());
            Checks.due(sentence + ": the greatest TOWN", 8, x.town());
            x.chill(7, 23);
            x.most();
        }
        Checks.feed(x, text);
        Checks.due(sentence + ": '" + text + "'", 1, x.town() >= 0 ? 1 : 0);
        return x;
    }

    private static void townAfterTown() {
        String sentence = "THE TEXT becomes THE TOWN, of an earlier one nothing is left";
        String[] later = {"", "people 7;", "people 3;coat 0 1 5;coat 2 1 9;goes 0 1 1 2;goes 1 1 2 3;goes 2 0 23 23;likes 2 1 4;frost 30;",
            "people 2;coat 1 0 7;goes 0 0 5 6;goes 1 0 6 7;"};
        for (String text : later) {
            for (int greatTowns = 1; greatTowns <= 3; greatTowns++) {
                SharedSleeves used = usedObject(sentence, text, greatTowns);
                Checks.due(sentence + ": '" + text + "'", 1, Told.all(used).equals(Told.all(whole(sentence, text))) ? 1 : 0);
                SharedSleeves worn = usedObject(sentence, text, greatTowns);
                Checks.due(sentence + ", worn: '" + text + "'", 1, Told.wearing(worn).equals(Told.wearing(whole(sentence, text))) ? 1 : 0);
            }
        }
        SharedSleeves same = usedObject(sentence + ", the same again", greatTown(), 3);
        int[] due = {8, 8, 8, 0, 9, 0, 0, 0, 0, 1};
        for (int what = 0; what < due.length; what++) {
            Checks.due(sentence + ", the same again: told " + what, due[what], same.told(what));
        }
    }

    private static void placeOfTheLatest() {
        String sentence = "the place of the byte that has the FAULT of the latest town(); NONE";
        SharedSleeves x = new SharedSleeves();
        Checks.due(sentence, NONE, x.fault());
        Checks.feed(x, "people 2;x");
        Checks.due(sentence + ", not yet read", NONE, x.fault());
        x.town();
        Checks.due(sentence, 9, x.fault());
        Checks.feed(x, " x");
        Checks.due(sentence + ", not yet read", 9, x.fault());
        Checks.due(sentence + ", told twice", 9, x.fault());
        x.town();
        Checks.due(sentence, 1, x.fault());
        Checks.feed(x, "people 2;");
        x.town();
        Checks.due(sentence, NONE, x.fault());
        Checks.feed(x, "x");
        x.town();
        Checks.due(sentence + " (from 0 on)", 0, x.fault());
        x.town();
        Checks.due(sentence + ", of an empty text", NONE, x.fault());
    }
}
