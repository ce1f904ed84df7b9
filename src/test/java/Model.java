import java.util.ArrayList;
import java.util.List;

/**
 * The document told once more, in the slowest and plainest way: everything that can be is tried.
 * It shares nothing with the program, so that both can be held against each other.
 */
final class Model {
    static final int NONE = -1, UNKNOWN = -1000000001, OUTSIDE = -1000000002, NOT = -1000000003, FULL = -1000000004;

    int people;
    List<int[]> coats = new ArrayList<>();
    List<int[]> errands = new ArrayList<>();
    int[][] likes = new int[8][8];
    int frost = 20;
    long seed;
    List<int[]> seen = new ArrayList<>();
    List<int[]> book = new ArrayList<>();
    int[][] images = new int[2][];
    long[] imageSeeds = new long[2];

    boolean cut(int c) {
        return coats.get(c)[3] == 1;
    }

    boolean owns(int c, int p) {
        return coats.get(c)[0] == p || coats.get(c)[1] == p;
    }

    int at(int p, int hour) {
        for (int[] e : errands) {
            if (e[0] == p && e[2] <= hour && hour <= e[3]) {
                return e[1];
            }
        }
        return NONE;
    }

    /** What everybody has on by a wearing, or null if it cannot be. */
    int[] warmths(int[] wearing, int hour) {
        int[] on = new int[8];
        int[] count = new int[8];
        for (int c = 0; c < wearing.length; c++) {
            int l = coats.get(c)[0];
            int r = coats.get(c)[1];
            int w = coats.get(c)[2];
            int half = w / 2;
            boolean left = wearing[c] == 1 || wearing[c] == 3;
            boolean right = wearing[c] == 2 || wearing[c] == 3;
            if (left) {
                count[l]++;
                on[l] = right || cut(c) ? half : w;
                if (at(l, hour) == NONE) {
                    return null;
                }
            }
            if (right) {
                count[r]++;
                on[r] = left || cut(c) ? half : w;
                if (at(r, hour) == NONE) {
                    return null;
                }
            }
            if (left && right && !cut(c) && at(l, hour) != at(r, hour)) {
                return null;
            }
        }
        for (int n : count) {
            if (n > 1) {
                return null;
            }
        }
        return on;
    }

    int chillBy(int p, int hour, int warmth) {
        return at(p, hour) == NONE ? 0 : Math.max(0, frost - warmth);
    }

    int[] bestWearing(int hour) {
        int n = coats.size();
        int[] best = new int[n];
        int least = Integer.MAX_VALUE;
        int[] wearing = new int[n];
        for (int code = 0; code < 1 << 2 * n; code++) {
            for (int c = 0; c < n; c++) {
                wearing[c] = code >> 2 * (n - 1 - c) & 3;
            }
            int[] on = warmths(wearing, hour);
            if (on != null) {
                int sum = 0;
                for (int p = 0; p < people; p++) {
                    sum += chillBy(p, hour, on[p]);
                }
                if (sum < least) {
                    least = sum;
                    best = wearing.clone();
                }
            }
        }
        return best;
    }

    int chill(int p, int hour) {
        return chillBy(p, hour, warmths(bestWearing(hour), hour)[p]);
    }

    int chillOfHour(int hour) {
        int[] on = warmths(bestWearing(hour), hour);
        int sum = 0;
        for (int p = 0; p < people; p++) {
            sum += chillBy(p, hour, on[p]);
        }
        return sum;
    }

    int chillOfDay() {
        int sum = 0;
        for (int hour = 0; hour < 24; hour++) {
            boolean anybody = false;
            for (int p = 0; p < people; p++) {
                anybody |= at(p, hour) != NONE;
            }
            sum += anybody ? chillOfHour(hour) : 0;
        }
        return sum;
    }

    boolean[] netOf(int p) {
        boolean[][] near = new boolean[8][8];
        for (int a = 0; a < 8; a++) {
            near[a][a] = true;
            for (int c = 0; c < coats.size(); c++) {
                for (int b = 0; b < 8; b++) {
                    near[a][b] |= !cut(c) && owns(c, a) && owns(c, b);
                }
            }
        }
        for (int m = 0; m < 8; m++) {
            for (int a = 0; a < 8; a++) {
                for (int b = 0; b < 8; b++) {
                    near[a][b] |= near[a][m] && near[m][b];
                }
            }
        }
        return near[p];
    }

    int net(int p, int what) {
        boolean[] in = netOf(p);
        int set = 0;
        int k = 0;
        int coatSet = 0;
        int number = 0;
        int[] has = new int[8];
        for (int q = 0; q < people; q++) {
            if (in[q]) {
                set += 1 << q;
                k++;
            }
        }
        for (int c = 0; c < coats.size(); c++) {
            if (!cut(c) && in[coats.get(c)[0]]) {
                coatSet += 1 << c;
                number++;
                has[coats.get(c)[0]]++;
                has[coats.get(c)[1]]++;
            }
        }
        boolean noMoreThanTwo = true;
        boolean allTwo = true;
        for (int q = 0; q < people; q++) {
            if (in[q]) {
                noMoreThanTwo &= has[q] <= 2;
                allTwo &= has[q] == 2;
            }
        }
        int kind = k == 1 || number == k - 1 && noMoreThanTwo ? 0 : k > 2 && number == k && allTwo ? 1 : 2;
        int minutes = kind == 0 ? (k + 1) / 2 : kind == 1 ? k : k + number;
        return what == 0 ? set : what == 1 ? coatSet : what == 2 ? kind : minutes;
    }

    int nets() {
        int count = 0;
        for (int p = 0; p < people; p++) {
            count += Integer.numberOfTrailingZeros(net(p, 0)) == p ? 1 : 0;
        }
        return count;
    }

    int sell(int c, int sleeve, int p) {
        if (cut(c) || owns(c, p)) {
            return NOT;
        }
        int was = coats.get(c)[sleeve];
        coats.get(c)[sleeve] = p;
        return was;
    }

    int fair(int c, int what) {
        List<Integer> hours = new ArrayList<>();
        for (int hour = 0; hour < 24; hour++) {
            if (at(coats.get(c)[0], hour) != NONE && at(coats.get(c)[1], hour) != NONE) {
                hours.add(hour);
            }
        }
        int least = Integer.MAX_VALUE;
        int set = 0;
        for (int code = 0; code < 1 << hours.size(); code++) {
            int left = 0;
            int right = 0;
            int hourSet = 0;
            for (int i = 0; i < hours.size(); i++) {
                boolean lefts = (code >> i & 1) == 1;
                left += Math.max(0, frost - (lefts ? coats.get(c)[2] : 0));
                right += Math.max(0, frost - (lefts ? 0 : coats.get(c)[2]));
                hourSet |= lefts ? 1 << hours.get(i) : 0;
            }
            if (Math.abs(left - right) < least) {
                least = Math.abs(left - right);
                set = hourSet;
            }
        }
        return what == 0 ? least : set;
    }

    int wish(int p) {
        int sum = 0;
        for (int c = 0; c < coats.size(); c++) {
            if (!cut(c) && owns(c, p)) {
                int other = coats.get(c)[0] + coats.get(c)[1] - p;
                sum += likes[p][other];
            }
        }
        return sum;
    }

    private boolean swapOnce() {
        for (int c = 0; c < coats.size(); c++) {
            for (int s = 0; s < 2; s++) {
                for (int d = c + 1; d < coats.size(); d++) {
                    for (int t = 0; t < 2; t++) {
                        int p = coats.get(c)[s];
                        int q = coats.get(d)[t];
                        if (cut(c) || cut(d) || p == q) {
                            continue;
                        }
                        int wasP = wish(p);
                        int wasQ = wish(q);
                        coats.get(c)[s] = q;
                        coats.get(d)[t] = p;
                        boolean twice = coats.get(c)[0] == coats.get(c)[1] || coats.get(d)[0] == coats.get(d)[1];
                        if (!twice && wish(p) > wasP && wish(q) > wasQ) {
                            return true;
                        }
                        coats.get(c)[s] = p;
                        coats.get(d)[t] = q;
                    }
                }
            }
        }
        return false;
    }

    int swap() {
        int count = 0;
        while (count < 50 && swapOnce()) {
            count++;
        }
        return count;
    }

    private boolean allHaveOne(List<Integer> out, int from, int halvesTaken) {
        if (from == out.size()) {
            return true;
        }
        int p = out.get(from);
        for (int c = 0; c < coats.size(); c++) {
            if (owns(c, p)) {
                int sleeve = coats.get(c)[0] == p ? 0 : 1;
                int takes = (cut(c) ? 1 << sleeve : 3) << 2 * c;
                if ((halvesTaken & takes) == 0 && allHaveOne(out, from + 1, halvesTaken | takes)) {
                    return true;
                }
            }
        }
        return false;
    }

    int most() {
        int best = 0;
        for (int set = 0; set < 1 << errands.size(); set++) {
            boolean can = true;
            for (int hour = 0; hour < 24 && can; hour++) {
                List<Integer> out = new ArrayList<>();
                for (int e = 0; e < errands.size(); e++) {
                    if ((set >> e & 1) == 1 && errands.get(e)[2] <= hour && hour <= errands.get(e)[3]) {
                        out.add(errands.get(e)[0]);
                    }
                }
                can = allHaveOne(out, 0, 0);
            }
            if (can && Integer.bitCount(set) > Integer.bitCount(best)) {
                best = set;
            }
        }
        return best;
    }

    int gain(int c) {
        int now = chillOfDay();
        coats.get(c)[3] = 1;
        int then = chillOfDay();
        coats.get(c)[3] = 0;
        return now - then;
    }

    int best() {
        int best = NONE;
        int greatest = 0;
        for (int c = 0; c < coats.size(); c++) {
            if (!cut(c)) {
                int gain = gain(c);
                if (best == NONE || gain > greatest) {
                    best = c;
                    greatest = gain;
                }
            }
        }
        return best;
    }

    int wore(int i) {
        int[] s = seen.get(i);
        int set = 0;
        for (int p = 0; p < people; p++) {
            set |= owns(s[0], p) && at(p, s[2]) == s[1] ? 1 << p : 0;
        }
        return set;
    }

    int theft() {
        for (int i = 0; i < seen.size(); i++) {
            boolean theft = wore(i) == 0;
            for (int j = 0; j < i; j++) {
                theft |= seen.get(i)[0] == seen.get(j)[0] && seen.get(i)[2] == seen.get(j)[2] && seen.get(i)[1] != seen.get(j)[1];
            }
            if (theft) {
                return i;
            }
        }
        return NONE;
    }

    int judge() {
        int[][] wearings = new int[24][coats.size()];
        boolean[][] toldOf = new boolean[24][coats.size()];
        for (int i = 0; i < book.size(); i++) {
            int[] entry = book.get(i);
            if (toldOf[entry[0]][entry[1]]) {
                return i;
            }
            toldOf[entry[0]][entry[1]] = true;
            wearings[entry[0]][entry[1]] = entry[2];
            if (warmths(wearings[entry[0]], entry[0]) == null) {
                return i;
            }
        }
        return NONE;
    }

    private int draw(int n) {
        seed = (seed * 1103515245L + 12345L) % (1L << 31);
        return (int) (seed / 65536 % n);
    }

    int winter(int n) {
        int sum = 0;
        for (int day = 0; day < n; day++) {
            frost = draw(40);
            sum += chillOfDay();
            int c = draw(coats.size());
            int sleeve = draw(2);
            sell(c, sleeve, draw(people));
        }
        return sum;
    }

    void keep(int i) {
        images[i] = new int[1 + 3 * coats.size()];
        images[i][0] = frost;
        for (int c = 0; c < coats.size(); c++) {
            images[i][1 + 3 * c] = coats.get(c)[0];
            images[i][2 + 3 * c] = coats.get(c)[1];
            images[i][3 + 3 * c] = coats.get(c)[3];
        }
        imageSeeds[i] = seed;
    }

    int goBack(int i) {
        if (images[i] == null) {
            return NOT;
        }
        frost = images[i][0];
        seed = imageSeeds[i];
        for (int c = 0; c < coats.size(); c++) {
            coats.get(c)[0] = images[i][1 + 3 * c];
            coats.get(c)[1] = images[i][2 + 3 * c];
            coats.get(c)[3] = images[i][3 + 3 * c];
        }
        return 1;
    }
}
