import java.util.List;

/**
 * Refusals: every call with every number at a bound and beside it, against what the document names for it;
 * of several the first is due, and what is refused changes nothing.
 */
public final class RefusalTest {
    private static final int UNKNOWN = SharedSleeves.UNKNOWN;
    private static final int OUTSIDE = SharedSleeves.OUTSIDE;
    private static final int NOT = SharedSleeves.NOT;
    private static final int FULL = SharedSleeves.FULL;
    private static final int FINE = 0;
    private static final String TOWN = "people 3;coat 0 1 9;coat 1 2 8;coat 2 0 7;goes 0 1 5 9;goes 1 1 6 7;goes 2 0 7 8;"
        + "goes 1 3 23 23;likes 0 1 7;likes 1 2 3;frost 12;";
    private static final int PEOPLE = 3;
    private static final int COATS = 3;
    private static final int ERRANDS = 4;
    private static final int CUT_ONE = 2;
    private static final int[][] OWNERS = {{0, 1}, {1, 2}, {2, 0}};
    private static final int FEW = 2;
    private static final int MANY = 30;
    private static final int SHORT = 9;
    private static final int LONG = 397;

    private interface Call {
        int on(SharedSleeves x, int[] a);
    }

    private interface Due {
        int of(int[] a);
    }

    /** How many rows of each kind there are, and how many bytes of the next text. */
    private final int rows;
    private final int bytes;
    private final List<Integer> before;

    private RefusalTest(int rows, int bytes) {
        this.rows = rows;
        this.bytes = bytes;
        before = stateOf(made());
    }

    public static void main(String[] args) {
        Checks.due("UNKNOWN is far below all that is counted", -1000000001, UNKNOWN);
        Checks.due("OUTSIDE", -1000000002, OUTSIDE);
        Checks.due("NOT", -1000000003, NOT);
        Checks.due("FULL", -1000000004, FULL);
        Checks.due("NONE", -1, SharedSleeves.NONE);
        new RefusalTest(FEW, SHORT).all();
        new RefusalTest(MANY, LONG).all();
        new RefusalTest(MANY - 1, LONG - 7).all();
        noCoats();
        nothingAtAll();
        Checks.finish("RefusalTest");
    }

    private SharedSleeves made() {
        SharedSleeves x = Checks.townOf(TOWN);
        x.seed(77);
        x.keep(0);
        x.cut(CUT_ONE);
        x.frost(30);
        x.seed(99);
        for (int i = 0; i < rows; i++) {
            x.see(i % COATS, 1, 5 + i % 4);
            x.write(i % 24, i % 2, i % 3);
        }
        Checks.feed(x, "?");
        x.town();
        Checks.feed(x, " people 4" + " ".repeat(bytes - SHORT));
        return x;
    }

    /** All that is told, then the IMAGES and the next text, of which can be told only by going on from them. */
    private static List<Integer> stateOf(SharedSleeves x) {
        List<Integer> all = Told.all(x);
        for (int i = 0; i < 2; i++) {
            all.add(x.goBack(i));
            all.add(x.told(4));
            all.add(x.told(5));
            all.add(x.seed(5));
            for (int c = 0; c < COATS; c++) {
                all.add(x.coat(c, 0));
                all.add(x.coat(c, 1));
            }
        }
        all.add(x.feed(3, 0x3B2020L));
        all.add(x.town());
        all.add(x.fault());
        all.add(x.told(0));
        return all;
    }

    private static boolean within(int v, int n) {
        return v >= 0 && v < n;
    }

    private static int either(boolean unknown, boolean outside, boolean not, boolean full) {
        return unknown ? UNKNOWN : outside ? OUTSIDE : not ? NOT : full ? FULL : FINE;
    }

    private static int unknown(boolean isUnknown) {
        return either(isUnknown, false, false, false);
    }

    /** Numbers up to n: all that are at a bound or beside it. */
    private static int[] upTo(int n) {
        return new int[] {Integer.MIN_VALUE, -2, -1, 0, 1, 2, n - 1, n, n + 1, Integer.MAX_VALUE};
    }

    private void check(String name, Due due, Call call, int[]... numbers) {
        int[] a = new int[numbers.length];
        int combinations = 1;
        for (int[] row : numbers) {
            combinations *= row.length;
        }
        for (int k = 0; k < combinations; k++) {
            StringBuilder told = new StringBuilder(name).append('(');
            int rest = k;
            for (int i = 0; i < a.length; i++) {
                a[i] = numbers[i][rest % numbers[i].length];
                rest /= numbers[i].length;
                told.append(i == 0 ? "" : ", ").append(a[i]);
            }
            told.append(") of ").append(rows).append(" rows");
            SharedSleeves x = made();
            int want = due.of(a);
            int got = call.on(x, a);
            if (want == FINE) {
                Checks.due(told + " is not refused", 1, got > -100000 ? 1 : 0);
            } else {
                Checks.due(told.toString(), want, got);
                Checks.due(told + " is refused and changes nothing", 1, stateOf(x).equals(before) ? 1 : 0);
            }
        }
    }

    private void all() {
        town();
        changes();
        wearing();
        seen();
    }

    private void town() {
        check("feed", a -> either(false, a[0] < 1 || a[0] > 8, false, bytes + a[0] > 400),
            (x, a) -> x.feed(a[0], 0x78L), new int[] {Integer.MIN_VALUE, -1, 0, 1, 2, 3, 4, 7, 8, 9, 10, Integer.MAX_VALUE});
        check("told", a -> either(false, !within(a[0], 10), false, false), (x, a) -> x.told(a[0]), upTo(10));
        check("coat", a -> either(!within(a[0], COATS), !within(a[1], 4), false, false), (x, a) -> x.coat(a[0], a[1]), upTo(COATS), upTo(4));
        check("errand", a -> either(!within(a[0], ERRANDS), !within(a[1], 4), false, false), (x, a) -> x.errand(a[0], a[1]), upTo(ERRANDS), upTo(4));
        check("where", a -> either(!within(a[0], PEOPLE), !within(a[1], 24), false, false), (x, a) -> x.where(a[0], a[1]), upTo(PEOPLE), upTo(24));
        check("likes", a -> unknown(!within(a[0], PEOPLE) || !within(a[1], PEOPLE) || a[0] == a[1]), (x, a) -> x.likes(a[0], a[1]), upTo(PEOPLE), upTo(PEOPLE));
    }

    private void changes() {
        check("net", a -> either(!within(a[0], PEOPLE), !within(a[1], 4), false, false), (x, a) -> x.net(a[0], a[1]), upTo(PEOPLE), upTo(4));
        check("sell", a -> {
            boolean unknown = !within(a[0], COATS) || !within(a[2], PEOPLE);
            return either(unknown, !within(a[1], 2), !unknown && (a[0] == CUT_ONE || OWNERS[a[0]][0] == a[2] || OWNERS[a[0]][1] == a[2]), false);
        }, (x, a) -> x.sell(a[0], a[1], a[2]), upTo(COATS), upTo(2), upTo(PEOPLE));
        check("cut", a -> either(!within(a[0], COATS), false, a[0] == CUT_ONE, false), (x, a) -> x.cut(a[0]), upTo(COATS));
        check("frost", a -> either(false, !within(a[0], 100), false, false), (x, a) -> x.frost(a[0]), upTo(100));
    }

    private void wearing() {
        check("worn", a -> either(a[1] != SharedSleeves.NONE && !within(a[1], COATS), !within(a[0], 24), false, false), (x, a) -> x.worn(a[0], a[1]), upTo(24), upTo(COATS));
        check("chill", a -> either(!within(a[0], PEOPLE), !within(a[1], 24), false, false), (x, a) -> x.chill(a[0], a[1]), upTo(PEOPLE), upTo(24));
        check("fair", a -> either(!within(a[0], COATS), !within(a[1], 2), a[0] == CUT_ONE, false), (x, a) -> x.fair(a[0], a[1]), upTo(COATS), upTo(2));
        check("wish", a -> unknown(!within(a[0], PEOPLE)), (x, a) -> x.wish(a[0]), upTo(PEOPLE));
        check("gain", a -> either(!within(a[0], COATS), false, a[0] == CUT_ONE, false), (x, a) -> x.gain(a[0]), upTo(COATS));
    }

    private void seen() {
        boolean full = rows == MANY;
        check("see", a -> either(!within(a[0], COATS), !within(a[1], 6) || !within(a[2], 24), false, full),
            (x, a) -> x.see(a[0], a[1], a[2]), upTo(COATS), upTo(6), upTo(24));
        check("wore", a -> unknown(!within(a[0], rows)), (x, a) -> x.wore(a[0]), upTo(rows));
        check("write", a -> either(!within(a[1], COATS), !within(a[0], 24) || !within(a[2], 4), false, full),
            (x, a) -> x.write(a[0], a[1], a[2]), upTo(24), upTo(COATS), upTo(4));
        check("winter", a -> either(false, a[0] < 1 || a[0] > 99, false, false), (x, a) -> x.winter(a[0]), upTo(99));
        check("seed", a -> either(false, a[0] < 0, false, false), (x, a) -> x.seed(a[0]), upTo(Integer.MAX_VALUE - 1));
        check("keep", a -> unknown(!within(a[0], 2)), (x, a) -> x.keep(a[0]), upTo(2));
        check("goBack", a -> either(!within(a[0], 2), false, a[0] == 1, false), (x, a) -> x.goBack(a[0]), upTo(2));
    }

    /** A WINTER without COATS is refused, but first by its days. */
    private static void noCoats() {
        for (int n : upTo(99)) {
            SharedSleeves x = Checks.townOf("people 2;goes 0 0 0 23;frost 7;");
            x.seed(4);
            Checks.due("winter(" + n + ") without COATS", n < 1 || n > 99 ? OUTSIDE : NOT, x.winter(n));
            Checks.due("winter is refused: FROST stays", 7, x.told(4));
            Checks.due("winter is refused: THE SEED stays", 4, x.seed(4));
            Checks.due("best without COATS", SharedSleeves.NONE, x.best());
        }
    }

    /** In a new object there is nobody and nothing to ask for. */
    private static void nothingAtAll() {
        SharedSleeves x = new SharedSleeves();
        for (int k : upTo(2)) {
            Checks.due("new: coat", UNKNOWN, x.coat(k, 9));
            Checks.due("new: errand", UNKNOWN, x.errand(k, 9));
            Checks.due("new: where", UNKNOWN, x.where(k, 24));
            Checks.due("new: likes", UNKNOWN, x.likes(k, 0));
            Checks.due("new: likes", UNKNOWN, x.likes(0, k));
            Checks.due("new: net", UNKNOWN, x.net(k, 4));
            Checks.due("new: sell", UNKNOWN, x.sell(k, 2, 0));
            Checks.due("new: cut", UNKNOWN, x.cut(k));
            Checks.due("new: worn", k == -1 ? 0 : UNKNOWN, x.worn(0, k));
            Checks.due("new: chill", UNKNOWN, x.chill(k, 24));
            Checks.due("new: fair", UNKNOWN, x.fair(k, 2));
            Checks.due("new: wish", UNKNOWN, x.wish(k));
            Checks.due("new: gain", UNKNOWN, x.gain(k));
            Checks.due("new: see", UNKNOWN, x.see(k, 6, 24));
            Checks.due("new: wore", UNKNOWN, x.wore(k));
            Checks.due("new: write", UNKNOWN, x.write(24, k, 4));
            Checks.due("new: goBack", within(k, 2) ? NOT : UNKNOWN, x.goBack(k));
        }
        Checks.due("new: winter", NOT, x.winter(99));
        Checks.due("new: keep", 1, x.keep(1));
        Checks.due("new: goBack", 1, x.goBack(1));
        Checks.due("new: goBack", NOT, x.goBack(0));
    }
}
