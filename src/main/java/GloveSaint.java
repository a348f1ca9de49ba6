import java.util.Arrays;

/** He who sees to singles: a drawer of gloves, socks and rings, and what may be paired in it. */
public final class GloveSaint {
    public static final int NONE = -1, UNKNOWN = -101, OUTSIDE = -102, STATE = -103, FULL = -104;

    private static final int MOST_SINGLES = 7;
    private static final int STATIONS = 6;
    private static final int SIZES = 10;
    private static final int ALIKE = 18;
    private static final int LEFT = 0;
    private static final int RIGHT = 1;

    private static final int SINGLE = 0;
    private static final int GLOVE = 1;
    private static final int SOCK = 2;
    private static final int RING = 3;
    private static final int MITTEN = 4;
    private static final int KINDS = 5;

    private static final int SINGLE_TELLS = 11;
    private static final int COUNTS = 13;
    private static final int FIRST_OF_ROW = 10;
    private static final int MOST_MILES = 30;
    private static final int MOST_TIMES = 60;
    private static final int DIGEST_MILES = 4;

    private final Page page = new Page();
    private final Drawer shown = new Drawer();
    private final Image kept = new Image();
    private final Rows rows = new Rows();
    private final Winters cold = new Winters();
    private int drawersRead = 0;

    public GloveSaint() {
    }

    // ---- the drawer

    public int letter(int code) {
        if (code < 1 || code > 126) {
            return OUTSIDE;
        }
        return page.write(code) ? page.length : FULL;
    }

    public int blank() {
        int had = page.length;
        page.clear();
        return had;
    }

    public int fault() {
        return page.firstFault();
    }

    public int drawer() {
        if (!page.isDrawer()) {
            return STATE;
        }
        shown.fillFrom(page);
        page.clear();
        kept.isThere = false;
        drawersRead++;
        return shown.size;
    }

    public int single(int single, int what) {
        if (!shown.has(single)) {
            return UNKNOWN;
        }
        Single one = shown.singles[single];
        switch (what) {
            case 0: return one.kindNumber();
            case 1: return one.hand;
            case 2: return one.size;
            case 3: return one.station;
            case 4: return one.mate;
            case 5: return shown.matchesOf(single);
            case 6: return shown.favouriteOf(single);
            case 7: return shown.spikeOf(single);
            case 8: return shown.seersAt(single, shown.spikeOf(single));
            case 9: return shown.seen.sizesOf(shown, single);
            case 10: return shown.seen.lookOf(shown, single, shown.seen.sizesOf(shown, single));
            default: return OUTSIDE;
        }
    }

    public int as(int single, int kind) {
        if (!shown.has(single)) {
            return UNKNOWN;
        }
        if (kind < 0 || kind >= KINDS) {
            return OUTSIDE;
        }
        return isOfKind(shown.singles[single], kind) ? single : NONE;
    }

    public int likeness(int a, int b) {
        return shown.hasTwo(a, b) ? shown.likenessOf(a, b) : UNKNOWN;
    }

    public int apart(int a, int b) {
        return shown.hasTwo(a, b) ? shown.singles[a].distanceTo(shown.singles[b]) : UNKNOWN;
    }

    // ---- who is carried, brought together, parts

    public int carry(int single, int station) {
        if (!shown.has(single) || !isStation(station)) {
            return UNKNOWN;
        }
        if (shown.isPaired(single)) {
            return STATE;
        }
        return shown.carryTo(single, station);
    }

    public int bring(int a, int b) {
        if (!shown.hasTwo(a, b)) {
            return UNKNOWN;
        }
        if (!shown.canMeet(a, b)) {
            return STATE;
        }
        shown.pairUp(a, b);
        shown.timesBrought++;
        return shown.likenessOf(a, b);
    }

    public int part(int single) {
        if (!shown.has(single)) {
            return UNKNOWN;
        }
        if (!shown.isPaired(single)) {
            return STATE;
        }
        int mate = shown.singles[single].mate;
        shown.separate(single);
        shown.timesParted++;
        return mate;
    }

    public int shrink(int single, int size) {
        if (!shown.has(single)) {
            return UNKNOWN;
        }
        if (size < 0 || size >= SIZES) {
            return OUTSIDE;
        }
        if (shown.isPaired(single)) {
            return STATE;
        }
        int was = shown.singles[single].size;
        shown.singles[single].size = size;
        return was;
    }

    public int may() {
        if (shown.isMissing()) {
            return STATE;
        }
        shown.swapMates();
        shown.timesMay++;
        return shown.pairs();
    }

    // ---- what would be

    public int most(int what) {
        if (!isRowQuestion(what)) {
            return OUTSIDE;
        }
        if (shown.isMissing()) {
            return STATE;
        }
        rows.seek(shown, Rows.FOR_MOST, MOST_MILES);
        return mostTold(what);
    }

    public int best(int miles, int what) {
        if (miles < 0 || miles > MOST_MILES || !isRowQuestion(what)) {
            return OUTSIDE;
        }
        if (shown.isMissing()) {
            return STATE;
        }
        rows.seek(shown, Rows.FOR_BEST, miles);
        return bestTold(what);
    }

    public int stable(int what) {
        if (!isRowQuestion(what)) {
            return OUTSIDE;
        }
        if (shown.isMissing()) {
            return STATE;
        }
        rows.seek(shown, Rows.FOR_STABLE, MOST_MILES);
        return stableTold(what);
    }

    public int happy(int single) {
        if (!shown.has(single)) {
            return UNKNOWN;
        }
        if (!shown.isPaired(single)) {
            return STATE;
        }
        int mate = shown.singles[single].mate;
        return shown.favouriteOf(single) == mate && shown.favouriteOf(mate) == single ? 1 : 0;
    }

    public int round(int station) {
        if (!isStation(station) || shown.isMissing()) {
            return UNKNOWN;
        }
        return shown.roundFrom(station);
    }

    public int odds(int what) {
        if (what != 0 && what != 1) {
            return OUTSIDE;
        }
        if (shown.isMissing()) {
            return STATE;
        }
        int good = shown.matchesAlone();
        int all = shown.twosAlone();
        if (all == 0) {
            return what == 0 ? 0 : 1;
        }
        int common = commonDivisor(good, all);
        return what == 0 ? good / common : all / common;
    }

    // ---- what is seen

    public int see(int a, int b, int likeness) {
        if (!shown.hasTwo(a, b)) {
            return UNKNOWN;
        }
        if (likeness != NONE && (likeness < 0 || likeness > ALIKE)) {
            return OUTSIDE;
        }
        return shown.seen.note(a, b, likeness) ? shown.seen.size : FULL;
    }

    public int forget() {
        int was = shown.seen.size;
        shown.seen.clear();
        return was;
    }

    public int winters(int times, int seed, int what) {
        if (times < 1 || times > MOST_TIMES || seed < 0 || what < 0 || what > 2) {
            return OUTSIDE;
        }
        if (shown.isMissing()) {
            return STATE;
        }
        cold.pass(shown, times, seed);
        switch (what) {
            case 0: return cold.pairs;
            case 1: return cold.likenessSum;
            default: return (int) cold.seed;
        }
    }

    // ---- what is told of all

    public int image() {
        if (shown.isMissing()) {
            return STATE;
        }
        kept.keep(shown);
        return shown.miles;
    }

    public int restore() {
        if (!kept.isThere) {
            return STATE;
        }
        kept.giveBack(shown);
        return shown.miles;
    }

    public int count(int what) {
        switch (what) {
            case 0: return shown.size;
            case 1: return shown.pairs();
            case 2: return shown.likenessOfPairs();
            case 3: return shown.matches();
            case 4: return shown.alone(LEFT);
            case 5: return shown.alone(RIGHT);
            case 6: return shown.miles;
            case 7: return shown.timesBrought;
            case 8: return shown.timesParted;
            case 9: return shown.timesMay;
            case 10: return shown.seen.size;
            case 11: return page.length;
            case 12: return drawersRead;
            default: return OUTSIDE;
        }
    }

    public long digest() {
        long hash = 1129L;
        for (int one = 0; one < shown.size; one++) {
            for (int what = 0; what < SINGLE_TELLS; what++) {
                hash = with(hash, single(one, what));
            }
            for (int other = 0; other < shown.size; other++) {
                hash = other == one ? hash : with(hash, shown.likenessOf(one, other));
            }
        }
        if (!shown.isMissing()) {
            hash = withRows(hash);
            for (int station = 0; station < STATIONS; station++) {
                hash = with(hash, shown.roundFrom(station));
            }
            hash = with(with(hash, odds(0)), odds(1));
        }
        for (int place = 0; place < page.length; place++) {
            hash = with(hash, page.codes[place]);
        }
        for (int what = 0; what < COUNTS; what++) {
            hash = with(hash, count(what));
        }
        return hash;
    }

    private long withRows(long start) {
        rows.seek(shown, Rows.FOR_MOST, MOST_MILES);
        long hash = with(with(start, mostTold(0)), mostTold(1));
        for (int one = 0; one < MOST_SINGLES; one++) {
            hash = with(hash, mostTold(FIRST_OF_ROW + one));
        }
        rows.seek(shown, Rows.FOR_BEST, DIGEST_MILES);
        hash = with(with(hash, bestTold(0)), bestTold(1));
        rows.seek(shown, Rows.FOR_STABLE, MOST_MILES);
        return with(with(hash, stableTold(0)), stableTold(1));
    }

    private static long with(long hash, long number) {
        return 31L * hash + number;
    }

    private int mostTold(int what) {
        switch (what) {
            case 0: return rows.pairs;
            case 1: return rows.likenessSum;
            default: return rows.mateOf(what - FIRST_OF_ROW);
        }
    }

    private int bestTold(int what) {
        switch (what) {
            case 0: return rows.likenessSum;
            case 1: return rows.miles;
            default: return rows.mateOf(what - FIRST_OF_ROW);
        }
    }

    private int stableTold(int what) {
        switch (what) {
            case 0: return rows.howMany;
            case 1: return rows.pairs;
            default: return rows.mateOf(what - FIRST_OF_ROW);
        }
    }

    private static boolean isRowQuestion(int what) {
        return what == 0 || what == 1
            || (what >= FIRST_OF_ROW && what < FIRST_OF_ROW + MOST_SINGLES);
    }

    private static boolean isStation(int station) {
        return station >= 0 && station < STATIONS;
    }

    private static boolean isOfKind(Single one, int kind) {
        switch (kind) {
            case SINGLE: return true;
            case GLOVE: return one instanceof Glove;
            case SOCK: return one instanceof Sock;
            case RING: return one instanceof Ring;
            case MITTEN: return one instanceof Mitten;
            default: return false;
        }
    }

    /** The greatest number that divides both; counted down, so that its end is seen. */
    private static int commonDivisor(int above, int below) {
        for (int divisor = below; divisor > 1; divisor--) {
            if (above % divisor == 0 && below % divisor == 0) {
                return divisor;
            }
        }
        return 1;
    }

    /** A SINGLE, and what holds for every KIND that says nothing else. */
    private static class Single {
        final int hand;
        int size;
        int station;
        int mate = NONE;

        Single(int hand, int size, int station) {
            this.hand = hand;
            this.size = size;
            this.station = station;
        }

        int kindNumber() {
            return SINGLE;
        }

        boolean takes(Single other) {
            return hand != other.hand;
        }

        int distanceTo(Single other) {
            return Math.abs(size - other.size);
        }
    }

    private static class Glove extends Single {
        Glove(int hand, int size, int station) {
            super(hand, size, station);
        }

        int kindNumber() {
            return GLOVE;
        }

        boolean takes(Single other) {
            return hand != other.hand && other instanceof Glove;
        }
    }

    private static final class Mitten extends Glove {
        Mitten(int hand, int size, int station) {
            super(hand, size, station);
        }

        int kindNumber() {
            return MITTEN;
        }

        int distanceTo(Single other) {
            return Math.abs(size - other.size) / 2;
        }
    }

    private static final class Sock extends Single {
        Sock(int hand, int size, int station) {
            super(hand, size, station);
        }

        int kindNumber() {
            return SOCK;
        }

        boolean takes(Single other) {
            return other instanceof Sock;
        }
    }

    private static final class Ring extends Single {
        Ring(int hand, int size, int station) {
            super(hand, size, station);
        }

        int kindNumber() {
            return RING;
        }

        boolean takes(Single other) {
            return hand != other.hand && size == other.size;
        }
    }

    /** THE PAGE: letters by their codes, and how a DRAWER is read from them. */
    private static final class Page {
        private static final int MOST_LETTERS = 36;
        /** A KIND, three digits, and the "," ahead of the next one. */
        private static final int STEP = 5;
        private static final int LONGEST_DRAWER = STEP * MOST_SINGLES - 1;
        private static final int SHORTEST_DRAWER = STEP * 2 - 1;
        /** Each KIND's letter stands at the KIND's number. */
        private static final String KIND_LETTERS = "sgkrm";

        final int[] codes = new int[MOST_LETTERS];
        int length = 0;

        boolean write(int code) {
            if (length >= MOST_LETTERS) {
                return false;
            }
            codes[length] = code;
            length++;
            return true;
        }

        void clear() {
            length = 0;
        }

        int firstFault() {
            for (int place = 0; place < length; place++) {
                if (!mayStandAt(place, codes[place])) {
                    return place;
                }
            }
            return length;
        }

        boolean isDrawer() {
            return length >= SHORTEST_DRAWER && length % STEP == STEP - 1 && firstFault() == length;
        }

        int singles() {
            return (length + 1) / STEP;
        }

        /** Only for a page that isDrawer(), and a number below singles(). */
        Single singleAt(int number) {
            int place = number * STEP;
            int hand = codes[place + 1] - '0';
            int size = codes[place + 2] - '0';
            int station = codes[place + 3] - '0';
            switch (KIND_LETTERS.indexOf((char) codes[place])) {
                case GLOVE: return new Glove(hand, size, station);
                case SOCK: return new Sock(hand, size, station);
                case RING: return new Ring(hand, size, station);
                case MITTEN: return new Mitten(hand, size, station);
                default: return new Single(hand, size, station);
            }
        }

        /** What may stand at a place does not hang on the letters ahead, if these are right. */
        private static boolean mayStandAt(int place, int code) {
            if (place >= LONGEST_DRAWER) {
                return false;
            }
            switch (place % STEP) {
                case 0: return KIND_LETTERS.indexOf((char) code) >= 0;
                case 1: return code >= '0' && code <= '0' + RIGHT;
                case 2: return code >= '0' && code < '0' + SIZES;
                case 3: return code >= '0' && code < '0' + STATIONS;
                default: return code == ',';
            }
        }
    }

    /** THE DRAWER as it is now; without SINGLES there is none. */
    private static final class Drawer {
        final Single[] singles = new Single[MOST_SINGLES];
        final Seen seen = new Seen();
        int size = 0;
        int miles = 0;
        int timesBrought = 0;
        int timesParted = 0;
        int timesMay = 0;
        private final int[] formerMates = new int[MOST_SINGLES];

        Drawer() {
            for (int place = 0; place < MOST_SINGLES; place++) {
                singles[place] = new Single(LEFT, 0, 0);
            }
        }

        void fillFrom(Page page) {
            size = Math.min(page.singles(), MOST_SINGLES);
            for (int one = 0; one < size; one++) {
                singles[one] = page.singleAt(one);
            }
            miles = 0;
            timesBrought = 0;
            timesParted = 0;
            timesMay = 0;
            seen.clear();
        }

        boolean isMissing() {
            return size == 0;
        }

        boolean has(int number) {
            return number >= 0 && number < size;
        }

        boolean hasTwo(int a, int b) {
            return has(a) && has(b) && a != b;
        }

        boolean isPaired(int one) {
            return has(singles[one].mate);
        }

        boolean mayPair(int a, int b) {
            return likenessOf(a, b) != NONE;
        }

        int likenessOf(int a, int b) {
            Single one = singles[a];
            Single other = singles[b];
            if (a == b || !one.takes(other) || !other.takes(one)) {
                return NONE;
            }
            return ALIKE - one.distanceTo(other) - other.distanceTo(one);
        }

        /** The LIKENESS, were the one of that size: it is lent the size, and given back its own. */
        int likenessAt(int one, int lentSize, int other) {
            int own = singles[one].size;
            singles[one].size = lentSize;
            int likeness = likenessOf(one, other);
            singles[one].size = own;
            return likeness;
        }

        int matchesOf(int one) {
            int bits = 0;
            for (int other = 0; other < size; other++) {
                if (mayPair(one, other)) {
                    bits |= 1 << other;
                }
            }
            return bits;
        }

        int favouriteOf(int one) {
            int favourite = NONE;
            int greatest = NONE;
            for (int other = 0; other < size; other++) {
                int likeness = likenessOf(one, other);
                if (likeness > greatest) {
                    greatest = likeness;
                    favourite = other;
                }
            }
            return favourite;
        }

        int seersAt(int one, int station) {
            int seers = 0;
            for (int other = 0; other < size; other++) {
                boolean near = Math.abs(singles[other].station - station) <= 1;
                if (near && !isPaired(other) && mayPair(one, other)) {
                    seers++;
                }
            }
            return seers;
        }

        int spikeOf(int one) {
            int spike = 0;
            int most = NONE;
            for (int station = 0; station < STATIONS; station++) {
                int seers = seersAt(one, station);
                if (seers > most) {
                    most = seers;
                    spike = station;
                }
            }
            return spike;
        }

        int carryTo(int one, int station) {
            int way = Math.abs(singles[one].station - station);
            singles[one].station = station;
            miles += way;
            return way;
        }

        boolean canMeet(int a, int b) {
            return !isPaired(a) && !isPaired(b) && mayPair(a, b)
                && singles[a].station == singles[b].station;
        }

        void pairUp(int a, int b) {
            singles[a].mate = b;
            singles[b].mate = a;
        }

        void separate(int one) {
            int mate = singles[one].mate;
            if (has(mate)) {
                singles[mate].mate = NONE;
            }
            singles[one].mate = NONE;
        }

        /** What MAY does: only those that were PAIRED are swapped, and none gets back its own. */
        void swapMates() {
            for (int one = 0; one < size; one++) {
                formerMates[one] = singles[one].mate;
                singles[one].mate = NONE;
            }
            for (int one = 0; one < size; one++) {
                int other = isPaired(one) ? NONE : newMateOf(one);
                if (other != NONE) {
                    pairUp(one, other);
                }
            }
        }

        private int newMateOf(int one) {
            if (formerMates[one] == NONE) {
                return NONE;
            }
            for (int other = 0; other < size; other++) {
                boolean swapped = formerMates[other] != NONE && formerMates[other] != one;
                if (swapped && !isPaired(other) && mayPair(one, other)) {
                    return other;
                }
            }
            return NONE;
        }

        int roundFrom(int station) {
            int least = STATIONS;
            int greatest = NONE;
            for (int one = 0; one < size; one++) {
                if (!isPaired(one)) {
                    least = Math.min(least, singles[one].station);
                    greatest = Math.max(greatest, singles[one].station);
                }
            }
            if (greatest == NONE) {
                return 0;
            }
            int below = Math.max(0, station - least);
            int above = Math.max(0, greatest - station);
            return below + above + Math.min(below, above);
        }

        int pairs() {
            int pairs = 0;
            for (int one = 0; one < size; one++) {
                if (singles[one].mate > one) {
                    pairs++;
                }
            }
            return pairs;
        }

        int likenessOfPairs() {
            int sum = 0;
            for (int one = 0; one < size; one++) {
                int mate = singles[one].mate;
                if (has(mate) && mate > one) {
                    sum += likenessOf(one, mate);
                }
            }
            return sum;
        }

        int matches() {
            int matches = 0;
            for (int one = 0; one < size; one++) {
                matches += Integer.bitCount(matchesOf(one));
            }
            return matches / 2;
        }

        int matchesAlone() {
            int matches = 0;
            for (int one = 0; one < size; one++) {
                for (int other = one + 1; other < size; other++) {
                    if (!isPaired(one) && !isPaired(other) && mayPair(one, other)) {
                        matches++;
                    }
                }
            }
            return matches;
        }

        int twosAlone() {
            int alone = alone(LEFT) + alone(RIGHT);
            return alone * (alone - 1) / 2;
        }

        int alone(int hand) {
            int alone = 0;
            for (int one = 0; one < size; one++) {
                if (!isPaired(one) && singles[one].hand == hand) {
                    alone++;
                }
            }
            return alone;
        }
    }

    /** What is SEEN: of which one, beside which other one, how great the LIKENESS was. */
    private static final class Seen {
        private static final int MOST_SEEN = 8;
        /** NONE, and each LIKENESS from 0 on. */
        private static final int ANSWERS = ALIKE + 2;

        int size = 0;
        private final int[] ones = new int[MOST_SEEN];
        private final int[] others = new int[MOST_SEEN];
        private final int[] likenesses = new int[MOST_SEEN];
        private final int[] left = new int[ANSWERS];

        boolean note(int one, int other, int likeness) {
            if (size >= MOST_SEEN) {
                return false;
            }
            ones[size] = one;
            others[size] = other;
            likenesses[size] = likeness;
            size++;
            return true;
        }

        void clear() {
            size = 0;
        }

        void copyFrom(Seen source) {
            size = source.size;
            for (int place = 0; place < size; place++) {
                ones[place] = source.ones[place];
                others[place] = source.others[place];
                likenesses[place] = source.likenesses[place];
            }
        }

        int sizesOf(Drawer drawer, int one) {
            int bits = 0;
            for (int sizeTried = 0; sizeTried < SIZES; sizeTried++) {
                if (agrees(drawer, one, sizeTried)) {
                    bits |= 1 << sizeTried;
                }
            }
            return bits;
        }

        private boolean agrees(Drawer drawer, int one, int sizeTried) {
            for (int place = 0; place < size; place++) {
                if (ones[place] == one
                    && drawer.likenessAt(one, sizeTried, others[place]) != likenesses[place]) {
                    return false;
                }
            }
            return true;
        }

        int lookOf(Drawer drawer, int one, int sizes) {
            if (sizes == 0) {
                return NONE;
            }
            int look = NONE;
            int fewest = SIZES + 1;
            for (int other = 0; other < drawer.size; other++) {
                int worst = other == one ? SIZES + 1 : leftAtWorst(drawer, one, other, sizes);
                if (worst < fewest) {
                    fewest = worst;
                    look = other;
                }
            }
            return look;
        }

        private int leftAtWorst(Drawer drawer, int one, int other, int sizes) {
            Arrays.fill(left, 0);
            int worst = 0;
            for (int sizeTried = 0; sizeTried < SIZES; sizeTried++) {
                int answer = drawer.likenessAt(one, sizeTried, other) - NONE;
                if ((sizes >> sizeTried & 1) == 1 && answer >= 0 && answer < ANSWERS) {
                    left[answer]++;
                    worst = Math.max(worst, left[answer]);
                }
            }
            return worst;
        }
    }

    /** The search through all ROWS for MOST, BEST and STABLE, and the ROW that was found. */
    private static final class Rows {
        static final int FOR_MOST = 0;
        static final int FOR_BEST = 1;
        static final int FOR_STABLE = 2;
        /** Above all LIKENESS, and all MILES, of one ROW: what ranks first outweighs the second. */
        private static final int WEIGHT = 1000;

        int howMany;
        int pairs;
        int likenessSum;
        int miles;
        private final int[] found = new int[MOST_SINGLES];
        private final int[] row = new int[MOST_SINGLES];
        private final int[][] like = new int[MOST_SINGLES][MOST_SINGLES];
        private final int[] stations = new int[MOST_SINGLES];
        private int size;
        private int goal;
        private int milesAllowed;
        private int foundRank;

        int mateOf(int one) {
            return one >= 0 && one < MOST_SINGLES ? found[one] : NONE;
        }

        void seek(Drawer drawer, int newGoal, int newMilesAllowed) {
            goal = newGoal;
            milesAllowed = newMilesAllowed;
            howMany = 0;
            pairs = 0;
            likenessSum = 0;
            miles = 0;
            foundRank = 0;
            Arrays.fill(found, NONE);
            Arrays.fill(row, NONE);
            learn(drawer);
            place(0, 0, 0, 0);
        }

        /** Those that are PAIRED now are like none here: no ROW pairs them, and they block none. */
        private void learn(Drawer drawer) {
            size = drawer.size;
            for (int one = 0; one < size; one++) {
                stations[one] = drawer.singles[one].station;
                for (int other = 0; other < size; other++) {
                    boolean leftOut = drawer.isPaired(one) || drawer.isPaired(other);
                    like[one][other] = leftOut ? NONE : drawer.likenessOf(one, other);
                }
            }
        }

        /** ROWS come in the order of their numbers, as none is tried first, then the least. */
        private void place(int one, int rowPairs, int rowLikeness, int rowMiles) {
            if (rowMiles > milesAllowed) {
                return;
            }
            if (one >= size) {
                judge(rowPairs, rowLikeness, rowMiles);
                return;
            }
            place(one + 1, rowPairs, rowLikeness, rowMiles);
            if (row[one] != NONE) {
                return;
            }
            for (int other = one + 1; other < size; other++) {
                if (row[other] == NONE && like[one][other] != NONE) {
                    int way = Math.abs(stations[one] - stations[other]);
                    row[one] = other;
                    row[other] = one;
                    place(one + 1, rowPairs + 1, rowLikeness + like[one][other], rowMiles + way);
                    row[one] = NONE;
                    row[other] = NONE;
                }
            }
        }

        /** The first of like ROWS stays, as it came first. */
        private void judge(int rowPairs, int rowLikeness, int rowMiles) {
            if (goal == FOR_STABLE && isBlocked()) {
                return;
            }
            howMany++;
            int rank = rankOf(rowPairs, rowLikeness, rowMiles);
            if (howMany == 1 || rank > foundRank) {
                foundRank = rank;
                pairs = rowPairs;
                likenessSum = rowLikeness;
                miles = rowMiles;
                System.arraycopy(row, 0, found, 0, MOST_SINGLES);
            }
        }

        private int rankOf(int rowPairs, int rowLikeness, int rowMiles) {
            switch (goal) {
                case FOR_MOST: return rowPairs * WEIGHT + rowLikeness;
                case FOR_BEST: return rowLikeness * WEIGHT - rowMiles;
                default: return 0;
            }
        }

        private boolean isBlocked() {
            for (int one = 0; one < size; one++) {
                for (int other = one + 1; other < size; other++) {
                    if (like[one][other] != NONE && row[one] != other
                        && wouldLeaveFor(one, other) && wouldLeaveFor(other, one)) {
                        return true;
                    }
                }
            }
            return false;
        }

        private boolean wouldLeaveFor(int one, int other) {
            int mate = row[one];
            if (mate < 0 || mate >= size) {
                return true;
            }
            int gain = like[one][other] - like[one][mate];
            return gain > 0 || (gain == 0 && other < mate);
        }
    }

    /** WINTERS as they would be: THE DRAWER itself is not changed by them. */
    private static final class Winters {
        private static final long FACTOR = 1103515245L;
        private static final long ADDEND = 12345L;
        private static final long SEEDS = 1L << 31;
        private static final long LOW_PART = 65536L;

        int pairs;
        int likenessSum;
        long seed;
        private final boolean[] taken = new boolean[MOST_SINGLES];

        void pass(Drawer drawer, int times, int firstSeed) {
            pairs = 0;
            likenessSum = 0;
            seed = firstSeed;
            for (int one = 0; one < drawer.size; one++) {
                taken[one] = drawer.isPaired(one);
            }
            for (int time = 0; time < times; time++) {
                int one = draw(drawer.size);
                int other = draw(drawer.size);
                meet(drawer, one, other);
            }
        }

        private void meet(Drawer drawer, int one, int other) {
            if (!drawer.hasTwo(one, other) || taken[one] || taken[other]) {
                return;
            }
            int likeness = drawer.likenessOf(one, other);
            if (likeness != NONE) {
                taken[one] = true;
                taken[other] = true;
                pairs++;
                likenessSum += likeness;
            }
        }

        private int draw(int choices) {
            seed = (FACTOR * seed + ADDEND) % SEEDS;
            return choices > 0 ? (int) (seed / LOW_PART % choices) : NONE;
        }
    }

    /** An IMAGE: what of THE DRAWER can change, as it was when the IMAGE was kept. */
    private static final class Image {
        boolean isThere = false;
        private final int[] sizes = new int[MOST_SINGLES];
        private final int[] stations = new int[MOST_SINGLES];
        private final int[] mates = new int[MOST_SINGLES];
        private final Seen seen = new Seen();
        private int miles = 0;
        private int timesBrought = 0;
        private int timesParted = 0;
        private int timesMay = 0;

        void keep(Drawer drawer) {
            for (int one = 0; one < drawer.size; one++) {
                sizes[one] = drawer.singles[one].size;
                stations[one] = drawer.singles[one].station;
                mates[one] = drawer.singles[one].mate;
            }
            seen.copyFrom(drawer.seen);
            miles = drawer.miles;
            timesBrought = drawer.timesBrought;
            timesParted = drawer.timesParted;
            timesMay = drawer.timesMay;
            isThere = true;
        }

        void giveBack(Drawer drawer) {
            for (int one = 0; one < drawer.size; one++) {
                drawer.singles[one].size = sizes[one];
                drawer.singles[one].station = stations[one];
                drawer.singles[one].mate = mates[one];
            }
            drawer.seen.copyFrom(seen);
            drawer.miles = miles;
            drawer.timesBrought = timesBrought;
            drawer.timesParted = timesParted;
            drawer.timesMay = timesMay;
        }
    }
}
