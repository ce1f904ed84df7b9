import java.util.Random;

/** Random towns and runs of calls: the program against the model. */
public final class ModelTest {
    private final Random random;
    private final Model model = new Model();
    private final StringBuilder text = new StringBuilder();
    private SharedSleeves x;
    private String run;

    private ModelTest(long number) {
        random = new Random(number);
        run = "run " + number + " ";
    }

    public static void main(String[] args) {
        for (long number = 0; number < 2000; number++) {
            new ModelTest(number).go(number % 100 == 99 ? 8 : 5, 60);
        }
        Checks.finish("ModelTest");
    }

    private int below(int n) {
        return random.nextInt(n);
    }

    /** Mostly one of the numbers that there are, now and then one besides. */
    private int about(int n) {
        int besides = below(25);
        return besides == 0 ? -1 : besides == 1 ? n : besides == 2 ? Integer.MAX_VALUE : besides == 3 ? Integer.MIN_VALUE
            : n < 1 ? 0 : below(n);
    }

    private void makeTown(int mostCoats) {
        model.people = 1 + below(8);
        model.frost = below(3) == 0 ? 20 : below(100);
        text.append("people ").append(model.people).append(';');
        int coats = model.people == 1 ? 0 : mostCoats == 8 ? 8 : below(mostCoats + 1);
        for (int c = 0; c < coats; c++) {
            int p = below(model.people);
            int q = (p + 1 + below(model.people - 1)) % model.people;
            int w = 1 + below(below(2) == 0 ? 99 : 12);
            model.coats.add(new int[] {p, q, w, 0});
            text.append("coat ").append(p).append(' ').append(q).append(' ').append(w).append(';');
        }
        int errands = below(11);
        int places = 1 + below(6);
        for (int e = 0; e < errands; e++) {
            int p = below(model.people);
            int from = below(24);
            int to = Math.min(23, from + below(7));
            boolean free = true;
            for (int hour = from; hour <= to; hour++) {
                free &= model.at(p, hour) == -1;
            }
            if (free) {
                int s = below(places);
                model.errands.add(new int[] {p, s, from, to});
                text.append("goes ").append(p).append(' ').append(s).append(' ').append(from).append(' ').append(to).append(';');
            }
        }
        boolean[][] told = new boolean[8][8];
        int likes = model.people == 1 ? 0 : below(12);
        for (int i = 0; i < likes; i++) {
            int p = below(model.people);
            int q = (p + 1 + below(model.people - 1)) % model.people;
            if (!told[p][q] && text.length() < 370) {
                told[p][q] = true;
                model.likes[p][q] = below(20);
                text.append("likes ").append(p).append(' ').append(q).append(' ').append(model.likes[p][q]).append(';');
            }
        }
        if (model.frost != 20) {
            text.append("frost ").append(model.frost).append(';');
        }
    }

    private void go(int mostCoats, int calls) {
        makeTown(mostCoats);
        x = new SharedSleeves();
        useUp();
        useUp();
        Checks.feed(x, text.toString());
        due("town", model.coats.size(), x.town());
        run += text + " ";
        tellAll();
        for (int i = 0; i < (mostCoats == 8 ? 12 : calls); i++) {
            if (below(2) == 0) {
                change();
            } else {
                ask();
            }
        }
        tellAll();
        askDear();
        tellAll();
    }

    /** Nothing of an earlier town may be left in a later one, but THE SEED. */
    private void useUp() {
        Checks.feed(x, "people 8;coat 0 1 99;coat 2 3 50;coat 4 5 60;goes 0 1 2 22;goes 1 1 4 9;goes 5 3 0 20;"
            + "likes 0 1 99;likes 1 0 90;likes 2 7 50;likes 7 2 50;frost 88;");
        x.town();
        x.see(0, 1, 5);
        x.write(5, 0, 3);
        x.cut(1);
        x.cut(0);
        x.most();
        x.chill(0, 4);
        x.keep(0);
        x.seed(8);
        x.winter(2);
        x.seed(0);
        x.net(4, 0);
    }

    private boolean person(int p) {
        return p >= 0 && p < model.people;
    }

    private boolean coat(int c) {
        return c >= 0 && c < model.coats.size();
    }

    private static boolean within(int v, int n) {
        return v >= 0 && v < n;
    }

    private void due(String call, int want, int got) {
        Checks.due(run + call, want, got);
    }

    private void tellAll() {
        int cut = 0;
        for (int c = 0; c < model.coats.size(); c++) {
            for (int what = 0; what < 4; what++) {
                due("coat", model.coats.get(c)[what], x.coat(c, what));
            }
            cut |= model.coats.get(c)[3] << c;
        }
        for (int e = 0; e < model.errands.size(); e++) {
            for (int what = 0; what < 4; what++) {
                due("errand", model.errands.get(e)[what], x.errand(e, what));
            }
        }
        int[] told = {model.people, model.coats.size(), model.errands.size(), 0, model.frost, cut, model.seen.size(), model.book.size()};
        for (int what = 0; what < told.length; what++) {
            due("told " + what, told[what], x.told(what));
        }
        due("nets", model.nets(), x.told(9));
        int seed = x.seed(0);
        due("seed", (int) model.seed, seed);
        x.seed(seed);
    }

    private void change() {
        int c = about(model.coats.size());
        int hour = about(24);
        int small = about(4);
        int p = about(model.people);
        switch (below(10)) {
            case 0: case 1: {
                int sleeve = about(2);
                due("sell", !coat(c) || !person(p) ? Model.UNKNOWN : !within(sleeve, 2) ? Model.OUTSIDE : model.sell(c, sleeve, p), x.sell(c, sleeve, p));
                break;
            }
            case 2: {
                int want = !coat(c) ? Model.UNKNOWN : model.cut(c) ? Model.NOT : 1;
                if (below(3) == 0) {
                    due("cut", want, x.cut(c));
                    if (want == 1) {
                        model.coats.get(c)[3] = 1;
                    }
                }
                break;
            }
            case 3: {
                int v = about(100);
                due("frost", within(v, 100) ? model.frost : Model.OUTSIDE, x.frost(v));
                model.frost = within(v, 100) ? v : model.frost;
                break;
            }
            case 4: case 5: {
                int place = about(6);
                int e = model.errands.isEmpty() ? 0 : below(model.errands.size());
                if (!model.errands.isEmpty() && below(3) > 0) {
                    place = model.errands.get(e)[1];
                    hour = model.errands.get(e)[2];
                }
                int want = !coat(c) ? Model.UNKNOWN : !within(place, 6) || !within(hour, 24) ? Model.OUTSIDE
                    : model.seen.size() == 30 ? Model.FULL : model.seen.size() + 1;
                if (want > 0) {
                    model.seen.add(new int[] {c, place, hour});
                }
                due("see", want, x.see(c, place, hour));
                break;
            }
            case 6: case 7: {
                if (!model.errands.isEmpty() && below(3) > 0) {
                    hour = model.errands.get(below(model.errands.size()))[2];
                }
                int want = !coat(c) ? Model.UNKNOWN : !within(hour, 24) || !within(small, 4) ? Model.OUTSIDE
                    : model.book.size() == 30 ? Model.FULL : model.book.size() + 1;
                if (want > 0) {
                    model.book.add(new int[] {hour, c, small});
                }
                due("write", want, x.write(hour, c, small));
                break;
            }
            case 8: {
                if (below(8) == 0) {
                    due("tear", model.seen.size() + model.book.size(), x.tear());
                    model.seen.clear();
                    model.book.clear();
                }
                due("swap", model.swap(), x.swap());
                break;
            }
            default: {
                int i = about(2);
                if (below(2) == 0) {
                    due("keep", within(i, 2) ? 1 : Model.UNKNOWN, x.keep(i));
                    if (within(i, 2)) {
                        model.keep(i);
                    }
                } else {
                    due("goBack", within(i, 2) ? model.goBack(i) : Model.UNKNOWN, x.goBack(i));
                }
                break;
            }
        }
    }

    private void ask() {
        int c = about(model.coats.size());
        int hour = about(24);
        int small = about(4);
        int p = about(model.people);
        int q = about(model.people);
        switch (below(9)) {
            case 0:
                due("net", !person(p) ? Model.UNKNOWN : !within(small, 4) ? Model.OUTSIDE : model.net(p, small), x.net(p, small));
                break;
            case 1: case 2:
                due("worn", c != -1 && !coat(c) ? Model.UNKNOWN : !within(hour, 24) ? Model.OUTSIDE
                    : c == -1 ? model.chillOfHour(hour) : model.bestWearing(hour)[c], x.worn(hour, c));
                break;
            case 3:
                due("chill", !person(p) ? Model.UNKNOWN : !within(hour, 24) ? Model.OUTSIDE : model.chill(p, hour), x.chill(p, hour));
                break;
            case 4: {
                int what = about(2);
                due("fair", !coat(c) ? Model.UNKNOWN : !within(what, 2) ? Model.OUTSIDE : model.cut(c) ? Model.NOT : model.fair(c, what), x.fair(c, what));
                break;
            }
            case 5:
                due("wish", !person(p) ? Model.UNKNOWN : model.wish(p), x.wish(p));
                due("likes", !person(p) || !person(q) || p == q ? Model.UNKNOWN : model.likes[p][q], x.likes(p, q));
                break;
            case 6:
                due("where", !person(p) ? Model.UNKNOWN : !within(hour, 24) ? Model.OUTSIDE : model.at(p, hour), x.where(p, hour));
                break;
            case 7: {
                int i = about(model.seen.size());
                due("wore", !within(i, model.seen.size()) ? Model.UNKNOWN : model.wore(i), x.wore(i));
                due("theft", model.theft(), x.theft());
                break;
            }
            default:
                due("judge", model.judge(), x.judge());
                break;
        }
    }

    private void askDear() {
        boolean wide = model.coats.size() == 8;
        due("day", model.chillOfDay(), x.told(8));
        due("most", model.most(), x.most());
        int c = about(model.coats.size());
        due("gain", !coat(c) ? Model.UNKNOWN : model.cut(c) ? Model.NOT : model.gain(c), x.gain(c));
        if (!wide) {
            due("best", model.best(), x.best());
        }
        int v = random.nextInt();
        due("seed", v < 0 ? Model.OUTSIDE : (int) model.seed, x.seed(v));
        model.seed = v < 0 ? model.seed : v;
        int n = wide ? 2 : about(5);
        due("winter", n < 1 || n > 99 ? Model.OUTSIDE : model.coats.isEmpty() ? Model.NOT : model.winter(n), x.winter(n));
    }
}
