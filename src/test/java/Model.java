import java.util.ArrayList;
import java.util.Arrays;
import java.util.Comparator;
import java.util.List;
import java.util.TreeMap;

/** The document once more, written another way: slowly, over texts and lists, to compare with. */
final class Model {
    private static final int NONE = -1, UNKNOWN = -101, OUTSIDE = -102, STATE = -103, FULL = -104;
    private String page = "";
    private String kinds = "";
    private int[] hand = {}, size = {}, station = {}, mate = {};
    private int miles, brought, parted, mays, read;
    private List<int[]> seen = new ArrayList<>();
    private Model kept;

    private Model copied() {
        Model copy = new Model();
        copy.size = size.clone();
        copy.station = station.clone();
        copy.mate = mate.clone();
        copy.miles = miles;
        copy.brought = brought;
        copy.parted = parted;
        copy.mays = mays;
        copy.seen = new ArrayList<>(seen);
        return copy;
    }

    private int n() {
        return kinds.length();
    }

    private boolean unknown(int... numbers) {
        return Arrays.stream(numbers).anyMatch(x -> x < 0 || x >= n())
            || Arrays.stream(numbers).distinct().count() != numbers.length;
    }

    int letter(int code) {
        if (code < 1 || code > 126) {
            return OUTSIDE;
        }
        if (page.length() == 36) {
            return FULL;
        }
        page += (char) code;
        return page.length();
    }

    int blank() {
        int had = page.length();
        page = "";
        return had;
    }

    /** A text goes on to a DRAWER if the rest of a longest one makes it one. */
    private static boolean goesOn(String text) {
        String longest = "s000,s000,s000,s000,s000,s000,s000";
        return isDrawer(text + longest.substring(Math.min(text.length(), longest.length())));
    }

    private static boolean isDrawer(String text) {
        return text.matches("[sgkrm][01][0-9][0-5](,[sgkrm][01][0-9][0-5]){1,6}");
    }

    int fault() {
        for (int end = 1; end <= page.length(); end++) {
            if (!goesOn(page.substring(0, end))) {
                return end - 1;
            }
        }
        return page.length();
    }

    int drawer() {
        if (!isDrawer(page)) {
            return STATE;
        }
        String[] parts = page.split(",");
        kinds = "";
        hand = new int[parts.length];
        size = new int[parts.length];
        station = new int[parts.length];
        mate = new int[parts.length];
        for (int i = 0; i < parts.length; i++) {
            kinds += parts[i].charAt(0);
            hand[i] = parts[i].charAt(1) - '0';
            size[i] = parts[i].charAt(2) - '0';
            station[i] = parts[i].charAt(3) - '0';
            mate[i] = NONE;
        }
        miles = 0;
        brought = 0;
        parted = 0;
        mays = 0;
        seen.clear();
        kept = null;
        read++;
        page = "";
        return n();
    }

    private boolean takes(int a, int b) {
        boolean otherHand = hand[a] != hand[b];
        char kind = kinds.charAt(b);
        return switch (kinds.charAt(a)) {
            case 's' -> otherHand;
            case 'g', 'm' -> otherHand && (kind == 'g' || kind == 'm');
            case 'k' -> kind == 'k';
            default -> otherHand && size[a] == size[b];
        };
    }

    private int far(int a, int b) {
        int by = Math.max(size[a], size[b]) - Math.min(size[a], size[b]);
        return kinds.charAt(a) == 'm' ? by >> 1 : by;
    }

    private int like(int a, int b) {
        return a != b && takes(a, b) && takes(b, a) ? 18 - far(a, b) - far(b, a) : NONE;
    }

    private boolean prefers(int a, int x, int y) {
        return like(a, x) > like(a, y) || (like(a, x) == like(a, y) && x < y);
    }

    private int preferred(int a) {
        for (int x = 0; x < n(); x++) {
            boolean all = like(a, x) != NONE;
            for (int y = 0; y < n(); y++) {
                all &= y == x || like(a, y) == NONE || prefers(a, x, y);
            }
            if (all) {
                return x;
            }
        }
        return NONE;
    }

    private int near(int a, int at) {
        int many = 0;
        for (int b = 0; b < n(); b++) {
            if (like(a, b) != NONE && mate[b] == NONE && station[b] >= at - 1 && station[b] <= at + 1) {
                many++;
            }
        }
        return many;
    }

    private int spike(int a) {
        int[] many = new int[6];
        for (int at = 0; at < 6; at++) {
            many[at] = near(a, at);
        }
        int most = Arrays.stream(many).max().getAsInt();
        for (int at = 0; at < 6; at++) {
            if (many[at] == most) {
                return at;
            }
        }
        return NONE;
    }

    private List<Integer> sizes(int a) {
        List<Integer> can = new ArrayList<>();
        int own = size[a];
        for (int s = 0; s < 10; s++) {
            size[a] = s;
            if (seen.stream().allMatch(x -> x[0] != a || like(a, x[1]) == x[2])) {
                can.add(s);
            }
        }
        size[a] = own;
        return can;
    }

    private int look(int a) {
        List<Integer> can = sizes(a);
        int found = NONE;
        int least = 99;
        int own = size[a];
        for (int b = 0; b < n() && !can.isEmpty(); b++) {
            TreeMap<Integer, Integer> by = new TreeMap<>();
            for (int s : can) {
                size[a] = s;
                by.merge(like(a, b), 1, Integer::sum);
            }
            int worst = by.values().stream().max(Integer::compare).get();
            if (b != a && worst < least) {
                least = worst;
                found = b;
            }
        }
        size[a] = own;
        return found;
    }

    int single(int a, int what) {
        if (unknown(a)) {
            return UNKNOWN;
        }
        return switch (what) {
            case 0 -> "sgkrm".indexOf(kinds.charAt(a));
            case 1 -> hand[a];
            case 2 -> size[a];
            case 3 -> station[a];
            case 4 -> mate[a];
            case 5 -> {
                int bits = 0;
                for (int b = 0; b < n(); b++) {
                    bits += like(a, b) == NONE ? 0 : 1 << b;
                }
                yield bits;
            }
            case 6 -> preferred(a);
            case 7 -> spike(a);
            case 8 -> near(a, spike(a));
            case 9 -> sizes(a).stream().mapToInt(s -> 1 << s).sum();
            case 10 -> look(a);
            default -> OUTSIDE;
        };
    }

    int as(int a, int kind) {
        if (unknown(a)) {
            return UNKNOWN;
        }
        if (kind < 0 || kind > 4) {
            return OUTSIDE;
        }
        char letter = kinds.charAt(a);
        boolean is = kind == 0 || "sgkrm".charAt(kind) == letter || (kind == 1 && letter == 'm');
        return is ? a : NONE;
    }

    int likeness(int a, int b) {
        return unknown(a, b) ? UNKNOWN : like(a, b);
    }

    int apart(int a, int b) {
        return unknown(a, b) ? UNKNOWN : far(a, b);
    }

    int carry(int a, int at) {
        if (unknown(a) || at < 0 || at > 5) {
            return UNKNOWN;
        }
        if (mate[a] != NONE) {
            return STATE;
        }
        int way = Math.abs(at - station[a]);
        station[a] = at;
        miles += way;
        return way;
    }

    int bring(int a, int b) {
        if (unknown(a, b)) {
            return UNKNOWN;
        }
        if (mate[a] != NONE || mate[b] != NONE || like(a, b) == NONE || station[a] != station[b]) {
            return STATE;
        }
        mate[a] = b;
        mate[b] = a;
        brought++;
        return like(a, b);
    }

    int part(int a) {
        if (unknown(a)) {
            return UNKNOWN;
        }
        if (mate[a] == NONE) {
            return STATE;
        }
        int had = mate[a];
        mate[had] = NONE;
        mate[a] = NONE;
        parted++;
        return had;
    }

    int shrink(int a, int to) {
        if (unknown(a)) {
            return UNKNOWN;
        }
        if (to < 0 || to > 9) {
            return OUTSIDE;
        }
        if (mate[a] != NONE) {
            return STATE;
        }
        int was = size[a];
        size[a] = to;
        return was;
    }

    int may() {
        if (n() == 0) {
            return STATE;
        }
        int[] had = mate.clone();
        List<Integer> pool = new ArrayList<>();
        for (int a = 0; a < n(); a++) {
            if (had[a] != NONE) {
                pool.add(a);
            }
            mate[a] = NONE;
        }
        int pairs = 0;
        while (!pool.isEmpty()) {
            int a = pool.remove(0);
            for (int i = 0; i < pool.size(); i++) {
                int b = pool.get(i);
                if (b != had[a] && like(a, b) != NONE) {
                    mate[a] = b;
                    mate[b] = a;
                    pool.remove(i);
                    pairs++;
                    break;
                }
            }
        }
        mays++;
        return pairs;
    }

    /** Every ROW, grown by one pair after another, in no order. */
    private List<int[]> rows() {
        List<int[]> all = new ArrayList<>();
        int[] none = new int[7];
        Arrays.fill(none, NONE);
        all.add(none);
        for (int a = 0; a < n(); a++) {
            for (int b = a + 1; b < n(); b++) {
                if (like(a, b) == NONE || mate[a] != NONE || mate[b] != NONE) {
                    continue;
                }
                for (int[] row : new ArrayList<>(all)) {
                    if (row[a] == NONE && row[b] == NONE) {
                        int[] grown = row.clone();
                        grown[a] = b;
                        grown[b] = a;
                        all.add(grown);
                    }
                }
            }
        }
        return all;
    }

    private int pairsOf(int[] row) {
        return (int) Arrays.stream(row).filter(x -> x != NONE).count() / 2;
    }

    private int likeOf(int[] row) {
        int sum = 0;
        for (int a = 0; a < n(); a++) {
            sum += row[a] == NONE ? 0 : like(a, row[a]);
        }
        return sum / 2;
    }

    private int milesOf(int[] row) {
        int sum = 0;
        for (int a = 0; a < n(); a++) {
            sum += row[a] == NONE ? 0 : Math.abs(station[a] - station[row[a]]);
        }
        return sum / 2;
    }

    private static boolean wrongRowWhat(int what) {
        return !(what == 0 || what == 1 || (what >= 10 && what <= 16));
    }

    int most(int what) {
        if (wrongRowWhat(what)) {
            return OUTSIDE;
        }
        if (n() == 0) {
            return STATE;
        }
        Comparator<int[]> order = Comparator.comparingInt((int[] row) -> -pairsOf(row))
            .thenComparingInt(row -> -likeOf(row)).thenComparing(Arrays::compare);
        int[] row = rows().stream().min(order).get();
        return what == 0 ? pairsOf(row) : what == 1 ? likeOf(row) : row[what - 10];
    }

    int best(int within, int what) {
        if (within < 0 || within > 30 || wrongRowWhat(what)) {
            return OUTSIDE;
        }
        if (n() == 0) {
            return STATE;
        }
        Comparator<int[]> order = Comparator.comparingInt((int[] row) -> -likeOf(row))
            .thenComparingInt(this::milesOf).thenComparing(Arrays::compare);
        int[] row = rows().stream().filter(x -> milesOf(x) <= within).min(order).get();
        return what == 0 ? likeOf(row) : what == 1 ? milesOf(row) : row[what - 10];
    }

    private boolean would(int[] row, int a, int b) {
        return row[a] == NONE || prefers(a, b, row[a]);
    }

    private boolean isStable(int[] row) {
        for (int a = 0; a < n(); a++) {
            for (int b = 0; b < n(); b++) {
                boolean free = mate[a] == NONE && mate[b] == NONE;
                if (free && like(a, b) != NONE && row[a] != b && would(row, a, b) && would(row, b, a)) {
                    return false;
                }
            }
        }
        return true;
    }

    int stable(int what) {
        if (wrongRowWhat(what)) {
            return OUTSIDE;
        }
        if (n() == 0) {
            return STATE;
        }
        List<int[]> stable = rows().stream().filter(this::isStable).sorted(Arrays::compare).toList();
        if (what == 0) {
            return stable.size();
        }
        return what == 1 ? pairsOf(stable.get(0)) : stable.get(0)[what - 10];
    }

    int happy(int a) {
        if (unknown(a)) {
            return UNKNOWN;
        }
        if (mate[a] == NONE) {
            return STATE;
        }
        return preferred(a) == mate[a] && preferred(mate[a]) == a ? 1 : 0;
    }

    /** Goes down first, or up first, step by step, until all have been passed. */
    int round(int from) {
        if (from < 0 || from > 5 || n() == 0) {
            return UNKNOWN;
        }
        return Math.min(walk(from, -1), walk(from, 1));
    }

    private int walk(int from, int way) {
        boolean[] left = new boolean[6];
        for (int a = 0; a < n(); a++) {
            left[station[a]] |= mate[a] == NONE;
        }
        int at = from;
        int gone = 0;
        for (int turn = 0; turn < 2; turn++) {
            int step = turn == 0 ? way : -way;
            left[at] = false;
            while (anyLeft(left, at, step)) {
                at += step;
                gone++;
                left[at] = false;
            }
        }
        return gone;
    }

    private static boolean anyLeft(boolean[] left, int at, int step) {
        for (int x = at; x >= 0 && x <= 5; x += step) {
            if (left[x]) {
                return true;
            }
        }
        return false;
    }

    int odds(int what) {
        if (what < 0 || what > 1) {
            return OUTSIDE;
        }
        if (n() == 0) {
            return STATE;
        }
        int above = 0;
        int below = 0;
        for (int a = 0; a < n(); a++) {
            for (int b = 0; b < a; b++) {
                if (mate[a] == NONE && mate[b] == NONE) {
                    below++;
                    above += like(a, b) == NONE ? 0 : 1;
                }
            }
        }
        if (below == 0) {
            return what;
        }
        int gcd = java.math.BigInteger.valueOf(above).gcd(java.math.BigInteger.valueOf(below)).intValue();
        return what == 0 ? above / gcd : below / gcd;
    }

    int see(int a, int b, int likeness) {
        if (unknown(a, b)) {
            return UNKNOWN;
        }
        if (likeness < -1 || likeness > 18) {
            return OUTSIDE;
        }
        if (seen.size() == 8) {
            return FULL;
        }
        seen.add(new int[] {a, b, likeness});
        return seen.size();
    }

    int forget() {
        int was = seen.size();
        seen.clear();
        return was;
    }

    int winters(int times, int seed, int what) {
        if (times < 1 || times > 60 || seed < 0 || what < 0 || what > 2) {
            return OUTSIDE;
        }
        if (n() == 0) {
            return STATE;
        }
        int[] mates = mate.clone();
        int next = seed;
        int pairs = 0;
        int sum = 0;
        for (int i = 0; i < times; i++) {
            next = next * 1103515245 + 12345 & Integer.MAX_VALUE;
            int a = (next >>> 16) % n();
            next = next * 1103515245 + 12345 & Integer.MAX_VALUE;
            int b = (next >>> 16) % n();
            if (like(a, b) != NONE && mates[a] == NONE && mates[b] == NONE) {
                mates[a] = b;
                mates[b] = a;
                pairs++;
                sum += like(a, b);
            }
        }
        return what == 0 ? pairs : what == 1 ? sum : next;
    }

    int image() {
        if (n() == 0) {
            return STATE;
        }
        kept = copied();
        return miles;
    }

    int restore() {
        if (kept == null) {
            return STATE;
        }
        Model from = kept.copied();
        size = from.size;
        station = from.station;
        mate = from.mate;
        miles = from.miles;
        brought = from.brought;
        parted = from.parted;
        mays = from.mays;
        seen = from.seen;
        return miles;
    }

    int count(int what) {
        int pairs = 0;
        int sum = 0;
        int can = 0;
        int[] alone = new int[2];
        for (int a = 0; a < n(); a++) {
            for (int b = 0; b < a; b++) {
                can += like(a, b) == NONE ? 0 : 1;
                pairs += mate[a] == b ? 1 : 0;
                sum += mate[a] == b ? like(a, b) : 0;
            }
            alone[hand[a]] += mate[a] == NONE ? 1 : 0;
        }
        int[] all = {n(), pairs, sum, can, alone[0], alone[1], miles, brought, parted, mays,
            seen.size(), page.length(), read};
        return what < 0 || what > 12 ? OUTSIDE : all[what];
    }

    long digest() {
        List<Integer> told = new ArrayList<>();
        for (int a = 0; a < n(); a++) {
            for (int what = 0; what <= 10; what++) {
                told.add(single(a, what));
            }
            for (int b = 0; b < n(); b++) {
                if (b != a) {
                    told.add(likeness(a, b));
                }
            }
        }
        if (n() > 0) {
            for (int what : new int[] {0, 1, 10, 11, 12, 13, 14, 15, 16}) {
                told.add(most(what));
            }
            told.addAll(List.of(best(4, 0), best(4, 1), stable(0), stable(1)));
            for (int at = 0; at < 6; at++) {
                told.add(round(at));
            }
            told.addAll(List.of(odds(0), odds(1)));
        }
        page.chars().forEach(told::add);
        for (int what = 0; what <= 12; what++) {
            told.add(count(what));
        }
        long h = 1129L;
        for (int number : told) {
            h = 31L * h + number;
        }
        return h;
    }
}
