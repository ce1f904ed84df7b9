import java.util.ArrayList;
import java.util.List;

/** All that an object tells by itself, in a row, so that two of them can be held against each other. */
final class Told {
    private Told() {
    }

    /** Nothing is changed by asking: THE SEED is put back. */
    static List<Integer> all(SharedSleeves x) {
        List<Integer> all = new ArrayList<>();
        for (int what = 0; what < 10; what++) {
            all.add(x.told(what));
        }
        addCoats(x, all);
        addErrands(x, all);
        addPeople(x, all);
        for (int i = 0; i < 30; i++) {
            all.add(x.wore(i));
        }
        all.add(x.theft());
        all.add(x.judge());
        all.add(x.fault());
        int seed = x.seed(0);
        x.seed(seed);
        all.add(seed);
        return all;
    }

    static List<Integer> wearing(SharedSleeves x) {
        List<Integer> all = new ArrayList<>();
        int people = x.told(0);
        int coats = x.told(1);
        for (int hour = 0; hour < 24; hour++) {
            for (int c = SharedSleeves.NONE; c < coats; c++) {
                all.add(x.worn(hour, c));
            }
            for (int p = 0; p < people; p++) {
                all.add(x.chill(p, hour));
            }
        }
        all.add(x.most());
        all.add(x.best());
        return all;
    }

    private static void addCoats(SharedSleeves x, List<Integer> all) {
        for (int c = 0; c < x.told(1); c++) {
            for (int what = 0; what < 4; what++) {
                all.add(x.coat(c, what));
            }
            all.add(x.fair(c, 0));
            all.add(x.fair(c, 1));
        }
    }

    private static void addErrands(SharedSleeves x, List<Integer> all) {
        for (int e = 0; e < x.told(2); e++) {
            for (int what = 0; what < 4; what++) {
                all.add(x.errand(e, what));
            }
        }
    }

    private static void addPeople(SharedSleeves x, List<Integer> all) {
        int people = x.told(0);
        for (int p = 0; p < people; p++) {
            all.add(x.wish(p));
            all.add(x.net(p, 0));
            all.add(x.net(p, 3));
            for (int q = 0; q < people; q++) {
                all.add(x.likes(p, q));
            }
            for (int hour = 0; hour < 24; hour++) {
                all.add(x.where(p, hour));
            }
        }
    }
}
