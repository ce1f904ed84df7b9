/** Promises 1 to 9: a new object, feed, town, fault, told, coat, errand, where, likes. */
public final class TownTest {
    private static final int NONE = SharedSleeves.NONE;
    private static final int UNKNOWN = SharedSleeves.UNKNOWN;
    private static final int OUTSIDE = SharedSleeves.OUTSIDE;
    private static final int NOT = SharedSleeves.NOT;
    private static final int FULL = SharedSleeves.FULL;

    public static void main(String[] args) {
        newObject();
        feeding();
        townStays();
        faults();
        reading();
        rowsTold();
        Checks.finish("TownTest");
    }

    private static void newObject() {
        SharedSleeves x = new SharedSleeves();
        int[] due = {0, 0, 0, 0, 20, 0, 0, 0, 0, 0};
        for (int what = 0; what < due.length; what++) {
            Checks.due("P1 told " + what, due[what], x.told(what));
        }
        Checks.due("P1 fault", NONE, x.fault());
        Checks.due("P1 where", UNKNOWN, x.where(0, 0));
        Checks.due("P1 net", UNKNOWN, x.net(0, 0));
        Checks.due("P1 chill", UNKNOWN, x.chill(0, 0));
        Checks.due("P1 worn", 0, x.worn(0, NONE));
        Checks.due("P1 most", 0, x.most());
        Checks.due("P1 swap", 0, x.swap());
        Checks.due("P1 best", NONE, x.best());
        Checks.due("P1 theft", NONE, x.theft());
        Checks.due("P1 judge", NONE, x.judge());
        Checks.due("P1 winter", NOT, x.winter(1));
        Checks.due("P1 seed", 0, x.seed(0));
        Checks.due("P1 goBack", NOT, x.goBack(0));
        Checks.due("P1 tear", 0, x.tear());
    }

    private static void feeding() {
        SharedSleeves x = new SharedSleeves();
        Checks.due("P2 none", OUTSIDE, x.feed(0, 32));
        Checks.due("P2 nine", OUTSIDE, x.feed(9, 32));
        Checks.due("P2 below", OUTSIDE, x.feed(-1, 32));
        for (int i = 1; i <= 49; i++) {
            Checks.due("P2 feed", 8 * i, x.feed(8, 0x2020202020202020L));
        }
        Checks.due("P2 seven", 399, x.feed(7, 0x2020202020202020L));
        Checks.due("P2 full", FULL, x.feed(2, 0x2020L));
        Checks.due("P2 outside ahead of full", OUTSIDE, x.feed(9, 0x20L));
        Checks.due("P2 told", 399, x.told(3));
        Checks.due("P2 the last", 400, x.feed(1, 0x20L));
        Checks.due("P2 full", FULL, x.feed(1, 0x20L));
        Checks.due("P3 blanks", 0, x.town());
        Checks.due("P3 empty then", 0, x.told(3));
        Checks.due("P2 the lowest bytes, the highest first", 3, x.feed(3, 0x41414141_41_70656FL));
        Checks.due("P2", 6, x.feed(3, 0x41414141_41_706C65L));
        Checks.due("P2", 7, x.feed(1, 0x3837L));
        Checks.due("P2", 8, x.feed(1, 0x373BL));
        Checks.due("P3", 0, x.town());
        Checks.due("P5 people", 7, x.told(0));
        x.feed(1, 0xFFL);
        Checks.due("P3 a byte above 127", -11, x.town());
        Checks.due("P4", 0, x.fault());
    }

    private static void townStays() {
        SharedSleeves x = Checks.townOf("people 3;coat 0 1 9;coat 1 2 8;goes 0 1 2 3;goes 1 1 3 3;likes 0 1 7;frost 30;");
        x.see(0, 1, 2);
        x.see(0, 1, 3);
        x.write(3, 0, 3);
        x.cut(1);
        x.keep(1);
        x.seed(99);
        x.frost(31);
        Checks.feed(x, "people 9;");
        Checks.due("P3 a fault", -12, x.town());
        Checks.due("P4 its place", 7, x.fault());
        int[] due = {3, 2, 2, 0, 31, 2, 2, 1};
        for (int what = 0; what < due.length; what++) {
            Checks.due("P3 all else stays " + what, due[what], x.told(what));
        }
        Checks.due("P3 where stays", 1, x.where(0, 2));
        Checks.due("P3 likes stays", 7, x.likes(0, 1));
        Checks.due("P3 the image stays", 1, x.goBack(1));
        Checks.due("P31 frost", 30, x.told(4));
        x.seed(99);
        Checks.feed(x, "people 2;coat 1 0 5;");
        Checks.due("P3 coats", 1, x.town());
        Checks.due("P4 none", NONE, x.fault());
        int[] then = {2, 1, 0, 0, 20, 0, 0, 0, 0, 1};
        for (int what = 0; what < then.length; what++) {
            Checks.due("P3 a new town " + what, then[what], x.told(what));
        }
        Checks.due("P3 images are gone", NOT, x.goBack(1));
        Checks.due("P3 the seed stays", 99, x.seed(1));
        Checks.due("P3 where is new", NONE, x.where(0, 2));
        Checks.due("P3 likes is new", 0, x.likes(0, 1));
        x.cut(0);
        Checks.feed(x, "people 3;coat 0 1 9;coat 1 2 8;");
        Checks.due("P3 a third town", 2, x.town());
        Checks.due("P3 nothing is cut", 0, x.told(5));
        Checks.due("P3 likes is new", 0, x.likes(0, 1));
        Checks.due("P3 where is new", NONE, x.where(0, 2));
        Checks.due("P3 no errands", 0, x.told(2));
        Checks.due("P3 frost is new", 20, x.told(4));
        Checks.due("P3 an empty text", 0, x.town());
        Checks.due("P3 no people", 0, x.told(0));
        Checks.due("P3 no coats", 0, x.told(1));
    }

    private static void fault(String text, int number, int place) {
        SharedSleeves x = new SharedSleeves();
        Checks.due("P4 ahead of it", NONE, x.fault());
        Checks.feed(x, text);
        Checks.due("P3 '" + text + "'", -10 - number, x.town());
        Checks.due("P4 '" + text + "'", place, x.fault());
        Checks.due("P3 text is empty '" + text + "'", 0, x.told(3));
        Checks.due("P3 no people '" + text + "'", 0, x.told(0));
    }

    private static void faults() {
        fault("peopl 2;", 1, 0);
        fault("peoplee 2;", 1, 0);
        fault("peoplez 2;", 1, 0);
        fault("peoplea 2;", 1, 0);
        fault("  People 2;", 1, 2);
        fault("peo ple 2;", 1, 0);
        fault("frost 2;people 2;", 1, 0);
        fault("5;", 1, 0);
        fault("1234;", 1, 0);
        fault(";", 1, 0);
        fault("people", 1, 6);
        fault("people   ", 1, 9);
        fault("people 2", 1, 8);
        fault("people 2 ", 1, 9);
        fault("people ;", 1, 7);
        fault("people people 2;", 1, 7);
        fault("people 2 2;", 1, 9);
        fault("people 2 1234;", 1, 9);
        fault("people 2;;", 1, 9);
        fault("people 2; coats 0 1 1;", 1, 10);
        fault("people 2\t;", 1, 8);
        fault("people 2,", 1, 8);
        fault("people -2;", 1, 7);
        fault("people 2x;", 1, 8);
        fault("people 0002;", 2, 7);
        fault("people 2222222222222222222;", 2, 7);
        fault("people 9", 2, 7);
        fault("people 0;", 2, 7);
        fault("people 2;people 2;", 3, 9);
        fault("people 2;people", 3, 9);
        fault("people 2;coat 2 0 1;", 2, 14);
        fault("people 2;coat 0 2 1;", 2, 16);
        fault("people 2;coat 1 1 1;", 4, 16);
        fault("people 2;coat 1 001 100;", 4, 16);
        fault("people 2;coat 0 1 0;", 2, 18);
        fault("people 2;coat 0 1 100;", 2, 18);
        fault("people 2;coat 0 1 99", 1, 20);
        fault("people 2;goes 2 0 1 1;", 2, 14);
        fault("people 2;goes 0 6 1 1;", 2, 16);
        fault("people 2;goes 0 5 24 24;", 2, 18);
        fault("people 2;goes 0 5 23 24;", 2, 21);
        fault("people 2;goes 0 5 23 22;", 4, 21);
        fault("people 2;goes 0 5 5 ;", 1, 20);
        fault("people 2;goes 0 5 5 8;goes 0 5 8 ;", 1, 33);
        fault("people 2;goes 0 5 5 8;goes 0 5 8 9;", 4, 33);
        fault("people 2;goes 0 5 5 8;goes 0 5 4 5;", 4, 33);
        fault("people 2;goes 0 5 5 8;goes 0 5 4 9;", 4, 33);
        fault("people 2;goes 0 5 5 8;goes 0 5 6 5;", 4, 33);
        fault("people 2;goes 0 5 5 8;goes 0 5 6 24;", 2, 33);
        fault("people 2;likes 2 0 1;", 2, 15);
        fault("people 2;likes 0 2 1;", 2, 17);
        fault("people 2;likes 0 0 1;", 4, 17);
        fault("people 2;likes 0 1 100;", 2, 19);
        fault("people 2;likes 0 1 0;likes 0 1 ;", 4, 29);
        fault("people 2;frost 100;", 2, 15);
        fault("people 2;frost 20;frost 20;", 3, 18);
        fault("people 2;frost 20;frosty 20;", 1, 18);
        StringBuilder coats = new StringBuilder("people 2;");
        for (int i = 0; i < 8; i++) {
            coats.append("coat 0 1 9;");
        }
        fault(coats + " coat", 3, coats.length() + 1);
        fault(coats + " cots", 1, coats.length() + 1);
        StringBuilder goes = new StringBuilder("people 2;");
        for (int i = 0; i < 10; i++) {
            goes.append("goes 0 1 ").append(i).append(' ').append(i).append(';');
        }
        fault(goes + "goes", 3, goes.length());
        StringBuilder likes = new StringBuilder("people8;");
        for (int i = 0; i < 30; i++) {
            likes.append("likes").append(i / 7).append(' ').append(i % 7 + (i % 7 >= i / 7 ? 1 : 0)).append(" 1;");
        }
        fault(likes + "likes", 3, likes.length());
        Checks.due("P3 thirty likes", 8, Checks.townOf(likes.toString()).told(0));
        SharedSleeves thrice = new SharedSleeves();
        for (int i = 0; i < 4; i++) {
            Checks.feed(thrice, likes.toString());
            Checks.due("P3 thirty likes again", 0, thrice.town());
        }
        Checks.due("P3 eight coats", 8, Checks.townOf(coats.toString()).told(1));
        Checks.due("P3 ten errands", 10, Checks.townOf(goes.toString()).told(2));
    }

    private static void reading() {
        SharedSleeves x = Checks.townOf("  people002 ;coat0 1 099;  coat 01 00 1 ;goes1 5 00 23;likes 1 0 99 ; frost 0; ");
        Checks.due("P3 people", 2, x.told(0));
        Checks.due("P3 coats", 2, x.told(1));
        Checks.due("P6", 99, x.coat(0, 2));
        Checks.due("P6", 1, x.coat(1, 0));
        Checks.due("P6", 0, x.coat(1, 1));
        Checks.due("P6", 1, x.coat(1, 2));
        Checks.due("P9", 99, x.likes(1, 0));
        Checks.due("P9", 0, x.likes(0, 1));
        Checks.due("P5 frost", 0, x.told(4));
        Checks.due("P8", 5, x.where(1, 23));
        Checks.due("P4", NONE, x.fault());
    }

    private static void rowsTold() {
        SharedSleeves x = Checks.townOf("people 3;coat 2 1 7;goes 0 4 3 5;goes 0 0 6 6;goes 2 1 0 0;likes 2 0 5;");
        int[] coat = {2, 1, 7, 0};
        int[] errand = {0, 4, 3, 5};
        int[] second = {0, 0, 6, 6};
        for (int what = 0; what < 4; what++) {
            Checks.due("P6", coat[what], x.coat(0, what));
            Checks.due("P7", errand[what], x.errand(0, what));
            Checks.due("P7", second[what], x.errand(1, what));
        }
        x.cut(0);
        Checks.due("P6 cut", 1, x.coat(0, 3));
        Checks.due("P5 cut", 1, x.told(5));
        Checks.due("P6", UNKNOWN, x.coat(1, 0));
        Checks.due("P6", UNKNOWN, x.coat(-1, 9));
        Checks.due("P6", OUTSIDE, x.coat(0, 4));
        Checks.due("P6", OUTSIDE, x.coat(0, -1));
        Checks.due("P7", UNKNOWN, x.errand(3, 0));
        Checks.due("P7", UNKNOWN, x.errand(-1, 4));
        Checks.due("P7", OUTSIDE, x.errand(0, 4));
        Checks.due("P7", OUTSIDE, x.errand(0, -1));
        int[] places = {-1, -1, -1, 4, 4, 4, 0, -1};
        for (int hour = 0; hour < places.length; hour++) {
            Checks.due("P8 hour " + hour, places[hour], x.where(0, hour));
        }
        Checks.due("P8", 1, x.where(2, 0));
        Checks.due("P8", UNKNOWN, x.where(3, 0));
        Checks.due("P8", UNKNOWN, x.where(-1, 24));
        Checks.due("P8", OUTSIDE, x.where(0, 24));
        Checks.due("P8", OUTSIDE, x.where(0, -1));
        Checks.due("P9", 5, x.likes(2, 0));
        Checks.due("P9", 0, x.likes(0, 2));
        Checks.due("P9 one twice", UNKNOWN, x.likes(1, 1));
        Checks.due("P9", UNKNOWN, x.likes(3, 0));
        Checks.due("P9", UNKNOWN, x.likes(0, 3));
        Checks.due("P9", UNKNOWN, x.likes(-1, 0));
        Checks.due("P9", UNKNOWN, x.likes(0, -1));
        Checks.due("P5", OUTSIDE, x.told(10));
        Checks.due("P5", OUTSIDE, x.told(-1));
        Checks.due("P5 nets", 3, x.told(9));
        Checks.due("P5 errands", 3, x.told(2));
    }
}
