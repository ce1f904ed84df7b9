/**
 * Coats that belong to two, one to each sleeve, and the people who wear them
 * hour by hour. What it must do is told in the document, promise by promise.
 */
public final class SharedSleeves {
    public static final int NONE = -1, UNKNOWN = -1000000001, OUTSIDE = -1000000002, NOT = -1000000003, FULL = -1000000004;

    private static final int MOST_BYTES = 400;
    private static final int MOST_PEOPLE = 8;
    private static final int MOST_COATS = 8;
    private static final int MOST_ERRANDS = 10;
    private static final int MOST_LIKINGS = 30;
    private static final int MOST_ROWS = 30;
    private static final int MOST_SWAPS = 50;
    private static final int MOST_DAYS = 99;
    private static final int PEOPLE_SETS = 256;
    private static final int HOURS = 24;
    private static final int PLACES = 6;
    private static final int HIGHEST = 99;
    private static final int USUAL_FROST = 20;
    private static final int IMAGES = 2;

    private static final int CHOICES = 4;
    private static final int BOTH = 3;

    private static final int CHAIN = 0;
    private static final int WHEEL = 1;
    private static final int KNOT = 2;

    private static final int OUT_OF_PLACE = 1;
    private static final int OUT_OF_BOUNDS = 2;
    private static final int TOO_MANY = 3;
    private static final int AGAINST_ITSELF = 4;

    private static final int PEOPLE_CLAUSE = 0;
    private static final int COAT_CLAUSE = 1;
    private static final int GOES_CLAUSE = 2;
    private static final int LIKES_CLAUSE = 3;
    private static final int FROST_CLAUSE = 4;

    private final Reader reader;
    private final Wardrobe wardrobe;
    private final Planner planner;
    private final Net tracedNet;
    private final Rows sightings;
    private final Rows book;
    private final Image[] images;
    private Town town;
    private Town spareTown;
    private long drawSeed;
    private int faultPlace;

    public SharedSleeves() {
        reader = new Reader();
        wardrobe = new Wardrobe();
        planner = new Planner();
        tracedNet = new Net();
        sightings = new Rows();
        book = new Rows();
        images = new Image[IMAGES];
        for (int i = 0; i < IMAGES; i++) {
            images[i] = new Image();
        }
        town = new Town();
        spareTown = new Town();
        drawSeed = 0;
        faultPlace = NONE;
    }

    // ---- the town

    public int feed(int n, long bytes) {
        if (n < 1 || n > 8) {
            return OUTSIDE;
        }
        return reader.append(n, bytes);
    }

    public int town() {
        int found = reader.readInto(spareTown);
        faultPlace = reader.foundPlace();
        reader.empty();
        if (found != 0) {
            return -10 - found;
        }
        Town earlier = town;
        town = spareTown;
        spareTown = earlier;
        sightings.empty();
        book.empty();
        for (int i = 0; i < IMAGES; i++) {
            images[i].kept = false;
        }
        return town.coats;
    }

    public int fault() {
        return faultPlace;
    }

    public int told(int what) {
        switch (what) {
            case 0: return town.people;
            case 1: return town.coats;
            case 2: return town.errands;
            case 3: return reader.size();
            case 4: return town.frost;
            case 5: return town.cutSet;
            case 6: return sightings.count;
            case 7: return book.count;
            case 8: return wardrobe.chillOfDay(town);
            case 9: return tracedNet.countAll(town);
            default: return OUTSIDE;
        }
    }

    public int coat(int c, int what) {
        if (!town.hasCoat(c)) {
            return UNKNOWN;
        }
        switch (what) {
            case 0: return town.owner[c][0];
            case 1: return town.owner[c][1];
            case 2: return town.warmth[c];
            case 3: return town.isCut(c) ? 1 : 0;
            default: return OUTSIDE;
        }
    }

    public int errand(int e, int what) {
        if (e < 0 || e >= town.errands) {
            return UNKNOWN;
        }
        if (what < 0 || what > 3) {
            return OUTSIDE;
        }
        return town.errandRow[e][what];
    }

    public int where(int p, int hour) {
        if (!town.hasPerson(p)) {
            return UNKNOWN;
        }
        return isHour(hour) ? town.place[p][hour] : OUTSIDE;
    }

    public int likes(int p, int q) {
        if (!town.hasPerson(p) || !town.hasPerson(q) || p == q) {
            return UNKNOWN;
        }
        return town.liking[p][q];
    }

    // ---- nets

    public int net(int p, int what) {
        if (!town.hasPerson(p)) {
            return UNKNOWN;
        }
        if (what < 0 || what > 3) {
            return OUTSIDE;
        }
        tracedNet.trace(town, p);
        switch (what) {
            case 0: return tracedNet.peopleSet;
            case 1: return tracedNet.coatSet;
            case 2: return tracedNet.kind;
            default: return tracedNet.minutesAtDoor();
        }
    }

    public int sell(int c, int sleeve, int p) {
        if (!town.hasCoat(c) || !town.hasPerson(p)) {
            return UNKNOWN;
        }
        if (sleeve < 0 || sleeve > 1) {
            return OUTSIDE;
        }
        if (!town.maySell(c, sleeve, p)) {
            return NOT;
        }
        int earlier = town.owner[c][sleeve];
        town.owner[c][sleeve] = p;
        return earlier;
    }

    public int cut(int c) {
        if (!town.hasCoat(c)) {
            return UNKNOWN;
        }
        if (town.isCut(c)) {
            return NOT;
        }
        town.cutSet |= 1 << c;
        return 1;
    }

    public int frost(int v) {
        if (v < 0 || v > HIGHEST) {
            return OUTSIDE;
        }
        int earlier = town.frost;
        town.frost = v;
        return earlier;
    }

    // ---- wearing

    public int worn(int hour, int c) {
        if (c != NONE && !town.hasCoat(c)) {
            return UNKNOWN;
        }
        if (!isHour(hour)) {
            return OUTSIDE;
        }
        if (c == NONE) {
            return wardrobe.chillOfHour(town, hour);
        }
        wardrobe.choose(town, hour);
        return wardrobe.chosen[c];
    }

    public int chill(int p, int hour) {
        if (!town.hasPerson(p)) {
            return UNKNOWN;
        }
        if (!isHour(hour)) {
            return OUTSIDE;
        }
        if (town.place[p][hour] == NONE) {
            return 0;
        }
        wardrobe.choose(town, hour);
        return Math.max(0, town.frost - wardrobe.warmthOn(town, p));
    }

    public int fair(int c, int what) {
        if (!town.hasCoat(c)) {
            return UNKNOWN;
        }
        if (what < 0 || what > 1) {
            return OUTSIDE;
        }
        if (town.isCut(c)) {
            return NOT;
        }
        int hours = town.hoursOfBothOut(c);
        int turns = Integer.bitCount(hours);
        // Every turn is worth the same, so only their number counts.
        int worth = Math.min(town.frost, town.warmth[c]);
        if (what == 0) {
            return turns % 2 * worth;
        }
        return worth == 0 ? 0 : lowestBits(hours, turns / 2);
    }

    public int wish(int p) {
        return town.hasPerson(p) ? Market.wishOf(town, p) : UNKNOWN;
    }

    public int swap() {
        int done = 0;
        while (done < MOST_SWAPS && Market.swapFirst(town)) {
            done++;
        }
        return done;
    }

    public int most() {
        return planner.mostErrands(town);
    }

    public int gain(int c) {
        if (!town.hasCoat(c)) {
            return UNKNOWN;
        }
        if (town.isCut(c)) {
            return NOT;
        }
        return wardrobe.chillOfDay(town) - chillIfCut(c);
    }

    public int best() {
        int first = NONE;
        int least = 0;
        for (int c = 0; c < town.coats; c++) {
            if (!town.isCut(c)) {
                int chilled = chillIfCut(c);
                if (first == NONE || chilled < least) {
                    first = c;
                    least = chilled;
                }
            }
        }
        return first;
    }

    // ---- what was seen

    public int see(int c, int place, int hour) {
        if (!town.hasCoat(c)) {
            return UNKNOWN;
        }
        if (place < 0 || place >= PLACES || !isHour(hour)) {
            return OUTSIDE;
        }
        return sightings.append(hour, c, place);
    }

    public int wore(int i) {
        return i < 0 || i >= sightings.count ? UNKNOWN : ownersThere(i);
    }

    public int theft() {
        for (int i = 0; i < sightings.count; i++) {
            if (ownersThere(i) == 0 || wasSeenElsewhere(i)) {
                return i;
            }
        }
        return NONE;
    }

    public int write(int hour, int c, int what) {
        if (!town.hasCoat(c)) {
            return UNKNOWN;
        }
        if (!isHour(hour) || what < 0 || what >= CHOICES) {
            return OUTSIDE;
        }
        return book.append(hour, c, what);
    }

    public int tear() {
        int both = sightings.count + book.count;
        sightings.empty();
        book.empty();
        return both;
    }

    public int judge() {
        for (int i = 0; i < book.count; i++) {
            if (isWrong(i)) {
                return i;
            }
        }
        return NONE;
    }

    public int winter(int n) {
        if (n < 1 || n > MOST_DAYS) {
            return OUTSIDE;
        }
        if (town.coats == 0) {
            return NOT;
        }
        int sum = 0;
        for (int day = 0; day < n; day++) {
            town.frost = draw(40);
            sum += wardrobe.chillOfDay(town);
            sellByDraws();
        }
        return sum;
    }

    public int seed(int v) {
        if (v < 0) {
            return OUTSIDE;
        }
        int earlier = (int) drawSeed;
        drawSeed = v;
        return earlier;
    }

    public int keep(int i) {
        if (i < 0 || i >= IMAGES) {
            return UNKNOWN;
        }
        images[i].take(town, drawSeed);
        return 1;
    }

    public int goBack(int i) {
        if (i < 0 || i >= IMAGES) {
            return UNKNOWN;
        }
        if (!images[i].kept) {
            return NOT;
        }
        images[i].giveBack(town);
        drawSeed = images[i].seedThen;
        return 1;
    }

    // ---- what they have in common

    private static boolean isHour(int hour) {
        return hour >= 0 && hour < HOURS;
    }

    private static int lowestBits(int set, int count) {
        int lowest = 0;
        int left = count;
        for (int k = 0; k < HOURS && left > 0; k++) {
            if ((set >> k & 1) != 0) {
                lowest |= 1 << k;
                left--;
            }
        }
        return lowest;
    }

    private int chillIfCut(int c) {
        int earlier = town.cutSet;
        town.cutSet = earlier | 1 << c;
        int chilled = wardrobe.chillOfDay(town);
        town.cutSet = earlier;
        return chilled;
    }

    private int ownersThere(int i) {
        int[] sighting = sightings.row[i];
        int set = 0;
        for (int sleeve = 0; sleeve < 2; sleeve++) {
            int p = town.owner[sighting[1]][sleeve];
            if (town.place[p][sighting[0]] == sighting[2]) {
                set |= 1 << p;
            }
        }
        return set;
    }

    private boolean wasSeenElsewhere(int i) {
        for (int j = 0; j < i; j++) {
            if (sightings.tellOfTheSame(i, j) && sightings.row[j][2] != sightings.row[i][2]) {
                return true;
            }
        }
        return false;
    }

    private boolean isWrong(int i) {
        int hour = book.row[i][0];
        int dressed = 0;
        for (int j = 0; j < i; j++) {
            if (book.tellOfTheSame(i, j)) {
                return true;
            }
            if (book.row[j][0] == hour) {
                dressed |= town.wearers(book.row[j][1], book.row[j][2], hour);
            }
        }
        int wearers = town.wearers(book.row[i][1], book.row[i][2], hour);
        return wearers == NONE || (wearers & dressed) != 0;
    }

    private int draw(int n) {
        drawSeed = drawSeed * 1103515245L + 12345L & 2147483647L;
        return n > 0 ? (int) (drawSeed / 65536L % n) : 0;
    }

    private void sellByDraws() {
        int c = draw(town.coats);
        int sleeve = draw(2);
        int p = draw(town.people);
        if (town.maySell(c, sleeve, p)) {
            town.owner[c][sleeve] = p;
        }
    }

    /** Who and what there is, and what may become of it. */
    private static final class Town {
        int people;
        int coats;
        int errands;
        int likings;
        int frost;
        int cutSet;
        boolean frostTold;
        private int steadyHours;
        final int[][] owner;
        final int[] warmth;
        final int[][] errandRow;
        final int[][] place;
        final int[][] liking;
        private final int[] likingTold;

        Town() {
            owner = new int[MOST_COATS][2];
            warmth = new int[MOST_COATS];
            errandRow = new int[MOST_ERRANDS][4];
            place = new int[MOST_PEOPLE][HOURS];
            liking = new int[MOST_PEOPLE][MOST_PEOPLE];
            likingTold = new int[MOST_PEOPLE];
            clear();
        }

        void clear() {
            people = 0;
            coats = 0;
            errands = 0;
            likings = 0;
            frost = USUAL_FROST;
            cutSet = 0;
            frostTold = false;
            steadyHours = 0;
            for (int p = 0; p < MOST_PEOPLE; p++) {
                likingTold[p] = 0;
                for (int q = 0; q < MOST_PEOPLE; q++) {
                    liking[p][q] = 0;
                }
                for (int hour = 0; hour < HOURS; hour++) {
                    place[p][hour] = NONE;
                }
            }
        }

        boolean hasPerson(int p) {
            return p >= 0 && p < people;
        }

        boolean hasCoat(int c) {
            return c >= 0 && c < coats;
        }

        boolean isCut(int c) {
            return (cutSet >> c & 1) != 0;
        }

        boolean likingIsTold(int p, int q) {
            return (likingTold[p] >> q & 1) != 0;
        }

        void addCoat(int p, int q, int w) {
            if (coats < MOST_COATS) {
                owner[coats][0] = p;
                owner[coats][1] = q;
                warmth[coats] = w;
                coats++;
            }
        }

        void addErrand(int p, int s, int from, int to) {
            if (errands < MOST_ERRANDS) {
                int[] row = errandRow[errands];
                row[0] = p;
                row[1] = s;
                row[2] = from;
                row[3] = to;
                errands++;
                for (int hour = from; hour <= to; hour++) {
                    place[p][hour] = s;
                }
            }
        }

        void addLiking(int p, int q, int l) {
            likings++;
            liking[p][q] = l;
            likingTold[p] |= 1 << q;
        }

        boolean isOutWithin(int p, int from, int to) {
            for (int hour = from; hour <= to; hour++) {
                if (place[p][hour] != NONE) {
                    return true;
                }
            }
            return false;
        }

        /** Long errands make hour after hour alike: such an hour need not be weighed again. */
        void markSteadyHours() {
            steadyHours = 0;
            for (int hour = 1; hour < HOURS; hour++) {
                boolean steady = true;
                for (int p = 0; p < people && steady; p++) {
                    steady = place[p][hour] == place[p][hour - 1];
                }
                if (steady) {
                    steadyHours |= 1 << hour;
                }
            }
        }

        boolean isLikeHourBefore(int hour) {
            return (steadyHours >> hour & 1) != 0;
        }

        int countOut(int hour) {
            int count = 0;
            for (int p = 0; p < people; p++) {
                if (place[p][hour] != NONE) {
                    count++;
                }
            }
            return count;
        }

        int hoursOfBothOut(int c) {
            int[] leftOne = place[owner[c][0]];
            int[] rightOne = place[owner[c][1]];
            int set = 0;
            for (int hour = 0; hour < HOURS; hour++) {
                if (leftOne[hour] != NONE && rightOne[hour] != NONE) {
                    set |= 1 << hour;
                }
            }
            return set;
        }

        int ownersOf(int c) {
            return 1 << owner[c][0] | 1 << owner[c][1];
        }

        boolean maySell(int c, int sleeve, int p) {
            return !isCut(c) && owner[c][0] != p && owner[c][1] != p;
        }

        /** The SET of those who wear a coat by a choice (its bits: left, right); NONE: it cannot be. */
        int wearers(int c, int choice, int hour) {
            int set = 0;
            for (int sleeve = 0; sleeve < 2; sleeve++) {
                if ((choice >> sleeve & 1) != 0) {
                    int p = owner[c][sleeve];
                    if (place[p][hour] == NONE) {
                        return NONE;
                    }
                    set |= 1 << p;
                }
            }
            boolean together = place[owner[c][0]][hour] == place[owner[c][1]][hour];
            return choice == BOTH && !together && !isCut(c) ? NONE : set;
        }

        int warmthEach(int c, int choice) {
            return choice == BOTH || isCut(c) ? warmth[c] / 2 : warmth[c];
        }
    }

    /** THE TEXT, and how it is read: byte by byte, up to the first fault. */
    private static final class Reader {
        private final int[] text;
        private int length;
        private int at;
        private int found;
        private int placeFound;
        private int numberPlace;

        Reader() {
            text = new int[MOST_BYTES];
            length = 0;
            at = 0;
            found = 0;
            placeFound = NONE;
            numberPlace = 0;
        }

        int size() {
            return length;
        }

        void empty() {
            length = 0;
        }

        int foundPlace() {
            return placeFound;
        }

        int append(int n, long bytes) {
            if (length + n > MOST_BYTES) {
                return FULL;
            }
            for (int i = n - 1; i >= 0; i--) {
                text[length] = (int) (bytes >>> 8 * i & 255L);
                length++;
            }
            return length;
        }

        /** The number of the fault, 0 without one. */
        int readInto(Town t) {
            at = 0;
            found = 0;
            placeFound = NONE;
            t.clear();
            skipBlanks();
            for (int clause = 0; clause < MOST_BYTES && found == 0 && at < length; clause++) {
                readClause(t);
                skipBlanks();
            }
            t.markSteadyHours();
            return found;
        }

        private void readClause(Town t) {
            int start = at;
            skipLetters();
            int kind = kindOfWord(start);
            if (kind == NONE || (kind != PEOPLE_CLAUSE && t.people == 0)) {
                fail(OUT_OF_PLACE, start);
                return;
            }
            if (isOneTooMany(t, kind)) {
                fail(TOO_MANY, start);
                return;
            }
            switch (kind) {
                case PEOPLE_CLAUSE: readPeople(t); break;
                case COAT_CLAUSE: readCoat(t); break;
                case GOES_CLAUSE: readGoes(t); break;
                case LIKES_CLAUSE: readLikes(t); break;
                default: readFrost(t); break;
            }
        }

        private boolean isOneTooMany(Town t, int kind) {
            switch (kind) {
                case PEOPLE_CLAUSE: return t.people != 0;
                case COAT_CLAUSE: return t.coats >= MOST_COATS;
                case GOES_CLAUSE: return t.errands >= MOST_ERRANDS;
                case LIKES_CLAUSE: return t.likings >= MOST_LIKINGS;
                default: return t.frostTold;
            }
        }

        private void readPeople(Town t) {
            int n = readNumber(1, MOST_PEOPLE);
            if (clauseEnds()) {
                t.people = n;
            }
        }

        private void readCoat(Town t) {
            int p = readNumber(0, t.people - 1);
            int q = readOther(t, p);
            int w = readNumber(1, HIGHEST);
            if (clauseEnds()) {
                t.addCoat(p, q, w);
            }
        }

        private void readGoes(Town t) {
            int p = readNumber(0, t.people - 1);
            int s = readNumber(0, PLACES - 1);
            int from = readNumber(0, HOURS - 1);
            int to = readNumber(0, HOURS - 1);
            if (found == 0 && (to < from || t.isOutWithin(p, from, to))) {
                fail(AGAINST_ITSELF, numberPlace);
            }
            if (clauseEnds()) {
                t.addErrand(p, s, from, to);
            }
        }

        private void readLikes(Town t) {
            int p = readNumber(0, t.people - 1);
            int q = readOther(t, p);
            if (found == 0 && t.likingIsTold(p, q)) {
                fail(AGAINST_ITSELF, numberPlace);
            }
            int l = readNumber(0, HIGHEST);
            if (clauseEnds()) {
                t.addLiking(p, q, l);
            }
        }

        private void readFrost(Town t) {
            int v = readNumber(0, HIGHEST);
            if (clauseEnds()) {
                t.frost = v;
                t.frostTold = true;
            }
        }

        private int readOther(Town t, int p) {
            int q = readNumber(0, t.people - 1);
            if (q == p) {
                fail(AGAINST_ITSELF, numberPlace);
            }
            return q;
        }

        /** What it answers is in its bounds, unless there is a fault. */
        private int readNumber(int least, int greatest) {
            if (found != 0) {
                return least;
            }
            skipBlanks();
            numberPlace = at;
            int value = 0;
            while (at < length && text[at] >= '0' && text[at] <= '9') {
                // More figures than three are a fault by their number, whatever they tell.
                if (at - numberPlace < 3) {
                    value = value * 10 + text[at] - '0';
                }
                at++;
            }
            int figures = at - numberPlace;
            if (figures == 0) {
                fail(OUT_OF_PLACE, numberPlace);
            } else if (figures > 3 || value < least || value > greatest) {
                fail(OUT_OF_BOUNDS, numberPlace);
            }
            return value;
        }

        private boolean clauseEnds() {
            if (found != 0) {
                return false;
            }
            skipBlanks();
            if (at >= length || text[at] != ';') {
                fail(OUT_OF_PLACE, at);
                return false;
            }
            at++;
            return true;
        }

        private int kindOfWord(int start) {
            if (isWord(start, "people")) {
                return PEOPLE_CLAUSE;
            }
            if (isWord(start, "coat")) {
                return COAT_CLAUSE;
            }
            if (isWord(start, "goes")) {
                return GOES_CLAUSE;
            }
            if (isWord(start, "likes")) {
                return LIKES_CLAUSE;
            }
            return isWord(start, "frost") ? FROST_CLAUSE : NONE;
        }

        private boolean isWord(int start, String word) {
            if (at - start != word.length()) {
                return false;
            }
            for (int i = 0; i < word.length(); i++) {
                if (text[start + i] != word.charAt(i)) {
                    return false;
                }
            }
            return true;
        }

        private void skipLetters() {
            while (at < length && text[at] >= 'a' && text[at] <= 'z') {
                at++;
            }
        }

        private void skipBlanks() {
            while (at < length && text[at] == ' ') {
                at++;
            }
        }

        /** Reading goes from the first byte on, so the first fault found is the one to tell. */
        private void fail(int number, int where) {
            if (found == 0) {
                found = number;
                placeFound = where;
            }
        }
    }

    /** Those who are coupled with one. */
    private static final class Net {
        int peopleSet;
        int coatSet;
        int kind;

        Net() {
            peopleSet = 0;
            coatSet = 0;
            kind = CHAIN;
        }

        int countAll(Town t) {
            int count = 0;
            int met = 0;
            for (int p = 0; p < t.people; p++) {
                if ((met >> p & 1) == 0) {
                    spread(t, p);
                    met |= peopleSet;
                    count++;
                }
            }
            return count;
        }

        void trace(Town t, int p) {
            spread(t, p);
            coatSet = 0;
            int most = 0;
            int least = MOST_COATS;
            for (int q = 0; q < t.people; q++) {
                if ((peopleSet >> q & 1) != 0) {
                    int own = wholeCoatsOf(t, q);
                    coatSet |= own;
                    most = Math.max(most, Integer.bitCount(own));
                    least = Math.min(least, Integer.bitCount(own));
                }
            }
            kind = kindBy(least, most);
        }

        int minutesAtDoor() {
            int k = Integer.bitCount(peopleSet);
            if (kind == CHAIN) {
                return (k + 1) / 2;
            }
            return kind == WHEEL ? k : k + Integer.bitCount(coatSet);
        }

        private int kindBy(int least, int most) {
            int k = Integer.bitCount(peopleSet);
            int c = Integer.bitCount(coatSet);
            if (c == k - 1 && most <= 2) {
                return CHAIN;
            }
            return k > 2 && c == k && least == 2 && most == 2 ? WHEEL : KNOT;
        }

        private void spread(Town t, int p) {
            peopleSet = 1 << p;
            // Each round but the last finds a further coat of the net.
            for (int round = 0; round < t.coats; round++) {
                for (int c = 0; c < t.coats; c++) {
                    if (!t.isCut(c) && (peopleSet & t.ownersOf(c)) != 0) {
                        peopleSet |= t.ownersOf(c);
                    }
                }
            }
        }

        private static int wholeCoatsOf(Town t, int p) {
            int set = 0;
            for (int c = 0; c < t.coats; c++) {
                if (!t.isCut(c) && (t.ownersOf(c) >> p & 1) != 0) {
                    set |= 1 << c;
                }
            }
            return set;
        }
    }

    /**
     * BEST WEARING. It is weighed from the last coat back to the first, so that afterwards the first
     * of like wearings can be taken coat by coat. Of those ahead of a coat only they matter who are
     * dressed and could wear it or one behind it.
     */
    private static final class Wardrobe {
        final int[] chosen;
        private final int[][] wearers;
        private final int[][] spared;
        private final int[] concerned;
        private final int[][] mostSpared;

        Wardrobe() {
            chosen = new int[MOST_COATS];
            wearers = new int[MOST_COATS][CHOICES];
            spared = new int[MOST_COATS][CHOICES];
            concerned = new int[MOST_COATS + 1];
            mostSpared = new int[MOST_COATS + 1][PEOPLE_SETS];
        }

        int chillOfDay(Town t) {
            int sum = 0;
            int ofHour = 0;
            for (int hour = 0; hour < HOURS; hour++) {
                if (!t.isLikeHourBefore(hour)) {
                    ofHour = chillOfHour(t, hour);
                }
                sum += ofHour;
            }
            return sum;
        }

        int chillOfHour(Town t, int hour) {
            for (int c = 0; c < t.coats; c++) {
                layOut(t, c, hour);
            }
            findConcerned(t.coats);
            mostSpared[t.coats][0] = 0;
            for (int c = t.coats - 1; c >= 0; c--) {
                weigh(c);
            }
            return t.countOut(hour) * t.frost - mostSpared[0][0];
        }

        void choose(Town t, int hour) {
            chillOfHour(t, hour);
            int dressed = 0;
            for (int c = 0; c < t.coats; c++) {
                int choice = firstBest(c, dressed);
                chosen[c] = choice;
                dressed = (dressed | wearers[c][choice]) & concerned[c + 1];
            }
        }

        /** Of what was chosen last. */
        int warmthOn(Town t, int p) {
            for (int c = 0; c < t.coats; c++) {
                if ((wearers[c][chosen[c]] >> p & 1) != 0) {
                    return t.warmthEach(c, chosen[c]);
                }
            }
            return 0;
        }

        private void layOut(Town t, int c, int hour) {
            for (int choice = 0; choice < CHOICES; choice++) {
                int set = t.wearers(c, choice, hour);
                wearers[c][choice] = set;
                spared[c][choice] = set == NONE ? 0
                    : Integer.bitCount(set) * Math.min(t.frost, t.warmthEach(c, choice));
            }
        }

        private void findConcerned(int coats) {
            int behind = 0;
            for (int c = coats; c >= 0; c--) {
                behind |= c < coats ? outOwners(c) : 0;
                concerned[c] = behind;
            }
            int ahead = 0;
            for (int c = 0; c <= coats; c++) {
                concerned[c] &= ahead;
                ahead |= c < coats ? outOwners(c) : 0;
            }
        }

        private int outOwners(int c) {
            return Math.max(0, wearers[c][1]) | Math.max(0, wearers[c][2]);
        }

        private void weigh(int c) {
            int sets = 1 << Integer.bitCount(concerned[c]);
            int dressed = 0;
            for (int i = 0; i < sets; i++) {
                mostSpared[c][dressed] = sparedBy(c, firstBest(c, dressed), dressed);
                // Taking away the whole set carries through its own bits alone: the next of its sets.
                dressed = dressed - concerned[c] & concerned[c];
            }
        }

        private int firstBest(int c, int dressed) {
            int first = 0;
            int most = sparedBy(c, 0, dressed);
            for (int choice = 1; choice < CHOICES; choice++) {
                if (wearers[c][choice] != NONE && (wearers[c][choice] & dressed) == 0) {
                    int value = sparedBy(c, choice, dressed);
                    if (value > most) {
                        first = choice;
                        most = value;
                    }
                }
            }
            return first;
        }

        private int sparedBy(int c, int choice, int dressed) {
            int then = (dressed | wearers[c][choice]) & concerned[c + 1];
            return spared[c][choice] + mostSpared[c + 1][then];
        }
    }

    /** WISH and SWAP. */
    private static final class Market {
        static int wishOf(Town t, int p) {
            int sum = 0;
            for (int c = 0; c < t.coats; c++) {
                if (!t.isCut(c)) {
                    if (t.owner[c][0] == p) {
                        sum += t.liking[p][t.owner[c][1]];
                    } else if (t.owner[c][1] == p) {
                        sum += t.liking[p][t.owner[c][0]];
                    }
                }
            }
            return sum;
        }

        /** Sleeves by numbers: those of coat c are 2 c and the next. */
        static boolean swapFirst(Town t) {
            int sleeves = 2 * t.coats;
            for (int a = 0; a < sleeves; a++) {
                for (int b = a + 1; b < sleeves; b++) {
                    if (maySwap(t, a, b) && isSwapped(t, a, b)) {
                        return true;
                    }
                }
            }
            return false;
        }

        private static int ownerOf(Town t, int sleeve) {
            return t.owner[sleeve / 2][sleeve % 2];
        }

        private static boolean maySwap(Town t, int a, int b) {
            int p = ownerOf(t, a);
            int q = ownerOf(t, b);
            return a / 2 != b / 2 && !t.isCut(a / 2) && !t.isCut(b / 2)
                && p != q && ownerOf(t, a ^ 1) != q && ownerOf(t, b ^ 1) != p;
        }

        private static boolean isSwapped(Town t, int a, int b) {
            int p = ownerOf(t, a);
            int q = ownerOf(t, b);
            int wishOfP = wishOf(t, p);
            int wishOfQ = wishOf(t, q);
            changeOwners(t, a, b);
            if (wishOf(t, p) > wishOfP && wishOf(t, q) > wishOfQ) {
                return true;
            }
            changeOwners(t, a, b);
            return false;
        }

        private static void changeOwners(Town t, int a, int b) {
            int p = ownerOf(t, a);
            t.owner[a / 2][a % 2] = ownerOf(t, b);
            t.owner[b / 2][b % 2] = p;
        }
    }

    /** MOST ERRANDS. */
    private static final class Planner {
        private final boolean[] dressable;
        private final int[] underWay;

        Planner() {
            dressable = new boolean[PEOPLE_SETS];
            underWay = new int[MOST_ERRANDS];
        }

        int mostErrands(Town t) {
            findDressable(t);
            findUnderWay(t);
            int sets = 1 << t.errands;
            for (int count = t.errands; count > 0; count--) {
                for (int set = 0; set < sets; set++) {
                    if (Integer.bitCount(set) == count && canBeDone(t, set)) {
                        return set;
                    }
                }
            }
            return 0;
        }

        private void findDressable(Town t) {
            int sets = 1 << t.people;
            for (int set = 1; set < sets; set++) {
                dressable[set] = false;
            }
            dressable[0] = true;
            for (int c = 0; c < t.coats; c++) {
                int leftOne = 1 << t.owner[c][0];
                int rightOne = 1 << t.owner[c][1];
                // From the greatest set down, so that no coat is put on twice.
                for (int set = sets - 1; set >= 0; set--) {
                    if (dressable[set]) {
                        dressable[set | leftOne] = true;
                        dressable[set | rightOne] = true;
                        if (t.isCut(c)) {
                            dressable[set | leftOne | rightOne] = true;
                        }
                    }
                }
            }
        }

        /** Most are out in an hour in which an errand begins: in no other need be looked. */
        private void findUnderWay(Town t) {
            for (int e = 0; e < t.errands; e++) {
                int hour = t.errandRow[e][2];
                underWay[e] = 0;
                for (int other = 0; other < t.errands; other++) {
                    if (t.errandRow[other][2] <= hour && hour <= t.errandRow[other][3]) {
                        underWay[e] |= 1 << other;
                    }
                }
            }
        }

        private boolean canBeDone(Town t, int set) {
            for (int e = 0; e < t.errands; e++) {
                if ((set >> e & 1) != 0 && !dressable[peopleOf(t, set & underWay[e])]) {
                    return false;
                }
            }
            return true;
        }

        private static int peopleOf(Town t, int errandSet) {
            int set = 0;
            for (int e = 0; e < t.errands; e++) {
                if ((errandSet >> e & 1) != 0) {
                    set |= 1 << t.errandRow[e][0];
                }
            }
            return set;
        }
    }

    /** Rows of (hour, coat, a third): what was seen, or the book. */
    private static final class Rows {
        final int[][] row;
        int count;

        Rows() {
            row = new int[MOST_ROWS][3];
            count = 0;
        }

        int append(int hour, int c, int third) {
            if (count >= MOST_ROWS) {
                return FULL;
            }
            row[count][0] = hour;
            row[count][1] = c;
            row[count][2] = third;
            count++;
            return count;
        }

        void empty() {
            count = 0;
        }

        boolean tellOfTheSame(int i, int j) {
            return row[i][0] == row[j][0] && row[i][1] == row[j][1];
        }
    }

    /** What an image keeps of a town. */
    private static final class Image {
        boolean kept;
        long seedThen;
        private int frostThen;
        private int cutThen;
        private final int[][] ownerThen;

        Image() {
            kept = false;
            seedThen = 0;
            frostThen = 0;
            cutThen = 0;
            ownerThen = new int[MOST_COATS][2];
        }

        void take(Town t, long seedNow) {
            kept = true;
            seedThen = seedNow;
            frostThen = t.frost;
            cutThen = t.cutSet;
            copyOwners(t.owner, ownerThen);
        }

        void giveBack(Town t) {
            t.frost = frostThen;
            t.cutSet = cutThen;
            copyOwners(ownerThen, t.owner);
        }

        private static void copyOwners(int[][] from, int[][] to) {
            for (int c = 0; c < MOST_COATS; c++) {
                to[c][0] = from[c][0];
                to[c][1] = from[c][1];
            }
        }
    }
}
