import java.util.ArrayList;
import java.util.HashSet;
import java.util.List;
import java.util.Random;
import java.util.Set;
import java.util.regex.Matcher;
import java.util.regex.Pattern;

/** Random texts, whole ones and spoiled ones: town() and fault() against a second reader that goes token by token. */
public final class ReadingTest {
    private static final Pattern TOKEN = Pattern.compile("[a-z]+|[0-9]+|[^ ]", Pattern.DOTALL);

    /** The least fault of the first token that has one, or 0; and its place. */
    private int fault;
    private int place;
    private int people;
    private int coats;
    private int errands;
    private int likes;
    private boolean frost;
    private final Set<Integer> busy = new HashSet<>();
    private final Set<Integer> liked = new HashSet<>();

    private ReadingTest(String text) {
        List<String> tokens = new ArrayList<>();
        List<Integer> places = new ArrayList<>();
        Matcher m = TOKEN.matcher(text);
        while (m.find()) {
            tokens.add(m.group());
            places.add(m.start());
        }
        place = -1;
        if (tokens.isEmpty()) {
            return;
        }
        String clause = "";
        List<Integer> numbers = new ArrayList<>();
        for (int i = 0; i < tokens.size() && fault == 0; i++) {
            String token = tokens.get(i);
            if (clause.isEmpty()) {
                fault = faultOfWord(token);
                clause = token;
                numbers.clear();
            } else if (numbers.size() == numbersOf(clause)) {
                fault = token.equals(";") ? 0 : 1;
                if (fault == 0) {
                    end(clause, numbers);
                    clause = "";
                }
            } else if (!Character.isDigit(token.charAt(0)) || token.charAt(0) > '9') {
                fault = 1;
            } else {
                numbers.add(token.length() > 3 ? 1000 : Integer.parseInt(token));
                fault = faultOfNumber(clause, numbers);
            }
            place = fault == 0 ? -1 : places.get(i);
        }
        if (fault == 0 && !clause.isEmpty()) {
            fault = 1;
            place = text.length();
        }
    }

    private static int numbersOf(String clause) {
        switch (clause) {
            case "people": case "frost": return 1;
            case "coat": case "likes": return 3;
            default: return 4;
        }
    }

    private int faultOfWord(String word) {
        if (!List.of("people", "coat", "goes", "likes", "frost").contains(word)) {
            return 1;
        }
        if (people == 0) {
            return word.equals("people") ? 0 : 1;
        }
        boolean again = word.equals("people") || word.equals("frost") && frost || word.equals("coat") && coats == 8
            || word.equals("goes") && errands == 10 || word.equals("likes") && likes == 30;
        return again ? 3 : 0;
    }

    private int faultOfNumber(String clause, List<Integer> numbers) {
        int i = numbers.size() - 1;
        int v = numbers.get(i);
        int p = numbers.get(0);
        boolean isPerson = i == 0 && !clause.equals("people") && !clause.equals("frost") || i == 1 && (clause.equals("coat") || clause.equals("likes"));
        boolean low = isPerson ? v >= people
            : clause.equals("people") ? v < 1 || v > 8
            : clause.equals("coat") ? v < 1 || v > 99
            : clause.equals("goes") ? v > (i == 1 ? 5 : 23)
            : v > 99;
        if (low) {
            return 2;
        }
        if (isPerson && i == 1 && (v == p || clause.equals("likes") && liked.contains(10 * p + v))) {
            return 4;
        }
        if (clause.equals("goes") && i == 3) {
            boolean taken = v < numbers.get(2);
            for (int hour = numbers.get(2); hour <= v; hour++) {
                taken |= busy.contains(100 * p + hour);
            }
            return taken ? 4 : 0;
        }
        return 0;
    }

    private void end(String clause, List<Integer> numbers) {
        switch (clause) {
            case "people": people = numbers.get(0); break;
            case "frost": frost = true; break;
            case "coat": coats++; break;
            case "likes": likes++; liked.add(10 * numbers.get(0) + numbers.get(1)); break;
            default:
                errands++;
                for (int hour = numbers.get(2); hour <= numbers.get(3); hour++) {
                    busy.add(100 * numbers.get(0) + hour);
                }
                break;
        }
    }

    public static void main(String[] args) {
        Random random = new Random(5);
        SharedSleeves x = new SharedSleeves();
        int used = 0;
        int[] met = new int[5];
        for (int run = 0; run < 150000; run++) {
            String text = spoiled(random, clauses(random), run % 4);
            if (used + 60 > 512) {
                x = new SharedSleeves();
                used = 0;
            }
            used += 60;
            Checks.feed(x, text);
            ReadingTest want = new ReadingTest(text);
            met[want.fault]++;
            Checks.due("P3 '" + text + "'", want.fault == 0 ? want.coats : -10 - want.fault, x.town());
            Checks.due("P4 '" + text + "'", want.place, x.fault());
            if (want.fault == 0) {
                Checks.due("P5 people '" + text + "'", want.people, x.told(0));
                Checks.due("P5 errands '" + text + "'", want.errands, x.told(2));
            }
        }
        for (int number = 0; number < met.length; number++) {
            Checks.due("enough texts with fault " + number, 1, met[number] > 500 ? 1 : 0);
        }
        Checks.finish("ReadingTest");
    }

    private static String clauses(Random random) {
        int people = 2 + random.nextInt(7);
        StringBuilder text = new StringBuilder("people " + people + ";");
        int crowd = random.nextInt(6);
        int count = random.nextInt(crowd == 0 ? 30 : 8);
        int only = random.nextInt(5);
        for (int i = 0; i < count; i++) {
            int p = random.nextInt(people);
            int q = (p + 1 + random.nextInt(people - 1)) % people;
            String clause;
            switch (crowd == 0 ? only : random.nextInt(5)) {
                case 0: case 1: clause = "coat " + p + " " + q + " " + (1 + random.nextInt(99)); break;
                case 2: int from = random.nextInt(24); clause = "goes " + p + " " + random.nextInt(6) + " " + from + " " + Math.min(23, from + random.nextInt(3)); break;
                case 3: clause = "likes " + p + " " + q + " " + random.nextInt(100); break;
                default: clause = "frost " + random.nextInt(100); break;
            }
            if (text.length() + clause.length() < 390) {
                text.append(clause).append(';');
            }
        }
        return text.toString();
    }

    private static String spoiled(Random random, String text, int times) {
        StringBuilder t = new StringBuilder(text);
        String bytes = "0123456789 ;;  peoplcatgsikfr\t\nA-\u0000\u00ff\u00e9";
        for (int i = 0; i < times && t.length() > 0; i++) {
            int k = random.nextInt(t.length());
            char c = bytes.charAt(random.nextInt(bytes.length()));
            switch (random.nextInt(4)) {
                case 0: t.setCharAt(k, c); break;
                case 1: t.deleteCharAt(k); break;
                case 2: if (random.nextInt(6) == 0) { t.setLength(k); } break;
                default: t.insert(k, c); break;
            }
        }
        if (random.nextInt(3) == 0) {
            int k = t.indexOf(" ", random.nextInt(t.length() + 1));
            if (k >= 0) {
                t.insert(k, ' ');
            }
        }
        return t.length() > 400 ? t.substring(0, 400) : t.toString();
    }
}
