/** Promises 10 to 13: net, sell, cut, frost. */
public final class NetTest {
    private static final int UNKNOWN = SharedSleeves.UNKNOWN;
    private static final int OUTSIDE = SharedSleeves.OUTSIDE;
    private static final int NOT = SharedSleeves.NOT;

    public static void main(String[] args) {
        kinds();
        cutApart();
        refusals();
        selling();
        cutting();
        frosts();
        Checks.finish("NetTest");
    }

    private static void net(String text, int p, int people, int coats, int kind, int minutes) {
        SharedSleeves x = Checks.townOf(text);
        Checks.due("P10 people " + text, people, x.net(p, 0));
        Checks.due("P10 coats " + text, coats, x.net(p, 1));
        Checks.due("P10 kind " + text, kind, x.net(p, 2));
        Checks.due("P10 minutes " + text, minutes, x.net(p, 3));
    }

    private static void kinds() {
        net("people 1;", 0, 1, 0, 0, 1);
        net("people 2;coat 0 1 1;", 1, 3, 1, 0, 1);
        net("people 2;coat 0 1 1;coat 1 0 1;", 1, 3, 3, 2, 4);
        net("people 3;coat 1 2 1;coat 0 1 1;", 0, 7, 3, 0, 2);
        net("people 3;coat 1 2 1;coat 0 1 1;coat 0 2 1;", 0, 7, 7, 1, 3);
        net("people 4;coat 0 1 1;coat 0 2 1;coat 0 3 1;", 2, 15, 7, 2, 7);
        net("people 4;coat 0 1 1;coat 1 2 1;coat 2 0 1;coat 2 3 1;", 3, 15, 15, 2, 8);
        net("people 5;coat 3 4 1;coat 1 2 1;coat 2 3 1;", 0, 1, 0, 0, 1);
        net("people 5;coat 3 4 1;coat 1 2 1;coat 2 3 1;", 4, 30, 7, 0, 2);
        net("people 5;coat 0 1 1;coat 2 3 1;coat 3 4 1;coat 4 2 1;", 3, 28, 14, 1, 3);
        net("people 3;coat 0 1 1;coat 0 1 1;coat 1 2 1;", 0, 7, 7, 2, 6);
        Checks.due("P5 nets", 2, Checks.townOf("people 5;coat 0 1 1;coat 2 3 1;coat 3 4 1;coat 4 2 1;").told(9));
    }

    private static void cutApart() {
        SharedSleeves x = Checks.townOf("people 4;coat 0 1 1;coat 1 2 1;coat 2 3 1;coat 3 0 1;");
        Checks.due("P10 wheel", 1, x.net(2, 2));
        x.cut(1);
        Checks.due("P10 chain", 0, x.net(2, 2));
        Checks.due("P10 people", 15, x.net(2, 0));
        Checks.due("P10 coats", 13, x.net(2, 1));
        x.cut(3);
        Checks.due("P10 people", 12, x.net(2, 0));
        Checks.due("P10 coats", 4, x.net(2, 1));
        Checks.due("P10 minutes", 1, x.net(2, 3));
        Checks.due("P5 nets", 2, x.told(9));
        Checks.due("P5 cut", 10, x.told(5));
    }

    private static void refusals() {
        SharedSleeves x = Checks.townOf("people 2;coat 0 1 1;");
        Checks.due("P10", UNKNOWN, x.net(2, 4));
        Checks.due("P10", UNKNOWN, x.net(-1, 0));
        Checks.due("P10", OUTSIDE, x.net(0, 4));
        Checks.due("P10", OUTSIDE, x.net(0, -1));
    }

    private static void selling() {
        SharedSleeves x = Checks.townOf("people 4;coat 0 1 1;coat 1 2 1;");
        Checks.due("P11", UNKNOWN, x.sell(2, 0, 0));
        Checks.due("P11", UNKNOWN, x.sell(-1, 5, 0));
        Checks.due("P11", UNKNOWN, x.sell(0, 5, 4));
        Checks.due("P11", UNKNOWN, x.sell(0, 0, -1));
        Checks.due("P11", OUTSIDE, x.sell(0, 2, 0));
        Checks.due("P11", OUTSIDE, x.sell(0, -1, 3));
        Checks.due("P11 its own", NOT, x.sell(0, 0, 0));
        Checks.due("P11 the other is its own", NOT, x.sell(0, 0, 1));
        Checks.due("P11 the other is its own", NOT, x.sell(0, 1, 0));
        Checks.due("P11 left", 0, x.sell(0, 0, 3));
        Checks.due("P11 right", 1, x.sell(0, 1, 2));
        Checks.due("P6", 3, x.coat(0, 0));
        Checks.due("P6", 2, x.coat(0, 1));
        Checks.due("P6 the other coat", 1, x.coat(1, 0));
        x.cut(0);
        Checks.due("P11 cut", NOT, x.sell(0, 0, 0));
        Checks.due("P11 outside ahead of cut", OUTSIDE, x.sell(0, 2, 0));
        Checks.due("P6 nothing changed", 3, x.coat(0, 0));
    }

    private static void cutting() {
        SharedSleeves x = Checks.townOf("people 2;coat 0 1 1;coat 0 1 1;");
        Checks.due("P12", UNKNOWN, x.cut(2));
        Checks.due("P12", UNKNOWN, x.cut(-1));
        Checks.due("P12", 1, x.cut(1));
        Checks.due("P12 it is", NOT, x.cut(1));
        Checks.due("P6", 0, x.coat(0, 3));
        Checks.due("P6", 1, x.coat(1, 3));
        Checks.due("P5", 2, x.told(5));
    }

    private static void frosts() {
        SharedSleeves x = Checks.townOf("people 2;frost 7;");
        Checks.due("P13", 7, x.frost(99));
        Checks.due("P13", OUTSIDE, x.frost(100));
        Checks.due("P13", OUTSIDE, x.frost(-1));
        Checks.due("P5", 99, x.told(4));
        Checks.due("P13", 99, x.frost(0));
        Checks.due("P5", 0, x.told(4));
    }
}
