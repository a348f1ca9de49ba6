import java.math.BigInteger;

/** Boundary cases of promise 23, and of WINTERS and DRAWS. */
public final class EdgesWintersTest {
    private static final int OUTSIDE = GloveSaint.OUTSIDE;
    private static final int STATE = GloveSaint.STATE;
    private static final int[] SEEDS = {0, 1, 2, 65535, 65536, 12345, 1 << 30, Integer.MAX_VALUE - 1, Integer.MAX_VALUE};
    private static final int[] TIMES = {1, 2, 3, 59, 60};
    private static final BigInteger REST = BigInteger.TWO.pow(31);

    public static void main(String[] args) {
        seedsByTwoToThe31();
        drawsOfHowManyThereAre();
        neitherIsPairedNow();
        asTheyWouldBe();
        timesOutside();
        seedOutside();
        whatOutside();
        wintersWithoutDrawer();
        Check.end("EdgesWintersTest");
    }

    private static BigInteger next(BigInteger seed) {
        return seed.multiply(BigInteger.valueOf(1103515245L)).add(BigInteger.valueOf(12345L)).mod(REST);
    }

    private static void seedsByTwoToThe31() {
        Check.of(0, "1103515245 times it and 12345, its rest by 2 to the 31");
        GloveSaint saint = Check.drawer("s000,s100");
        Check.due("by hand: behind 0 come 12345 and", saint.winters(1, 0, 2), 1406932606);
        for (int seed : SEEDS) {
            BigInteger due = BigInteger.valueOf(seed);
            for (int times = 1; times <= 60; times++) {
                due = next(next(due));
                if (times <= 3 || times >= 59) {
                    String call = "winters(" + times + ", " + seed + ", 2)";
                    Check.due(call, saint.winters(times, seed, 2), due.longValueExact());
                }
            }
        }
    }

    /** Socks of 0 and 9, and a left glove that nobody takes: what was drawn is told by the numbers. */
    private static void drawsOfHowManyThereAre() {
        Check.of(0, "then that by 65536 (rounded down), its rest");
        String text = "k000";
        for (int many = 2; many <= 7; many++) {
            text += many == 4 ? ",g000" : many % 2 == 0 ? ",k090" : ",k030";
            for (int seed : SEEDS) {
                for (int times : TIMES) {
                    dueWinters(Check.drawer(text), times, seed, new boolean[many]);
                }
            }
        }
    }

    private static void dueWinters(GloveSaint saint, int times, int seed, boolean[] taken) {
        BigInteger now = BigInteger.valueOf(seed);
        BigInteger many = BigInteger.valueOf(taken.length);
        int pairs = 0;
        int likeness = 0;
        for (int time = 0; time < times; time++) {
            now = next(now);
            int one = now.shiftRight(16).mod(many).intValueExact();
            now = next(now);
            int other = now.shiftRight(16).mod(many).intValueExact();
            if (one != other && !taken[one] && !taken[other] && saint.likeness(one, other) >= 0) {
                taken[one] = true;
                taken[other] = true;
                pairs++;
                likeness += saint.likeness(one, other);
            }
        }
        String call = "winters(" + times + ", " + seed + ") of " + taken.length;
        Check.due(call + ": PAIRS", saint.winters(times, seed, 0), pairs);
        Check.due(call + ": LIKENESS", saint.winters(times, seed, 1), likeness);
    }

    private static void neitherIsPairedNow() {
        Check.of(0, "if these are unlike, neither is PAIRED (now, or by what was drawn), and they MAY be");
        for (int seed : SEEDS) {
            GloveSaint two = Check.drawer("k000,k000");
            Check.due("the two", two.winters(60, seed, 0), 1);
            two.bring(0, 1);
            Check.due("the two are PAIRED", two.winters(60, seed, 0), 0);
            Check.due("the two are PAIRED", two.winters(60, seed, 1), 0);
            Check.due("they MAY not", Check.drawer("s000,s000").winters(60, seed, 0), 0);
            Check.due("of LIKENESS 0", Check.drawer("s000,s190").winters(60, seed, 0), 1);
            Check.due("of LIKENESS 0", Check.drawer("s000,s190").winters(60, seed, 1), 0);
            GloveSaint four = Check.drawer("k000,k000,k000,k000");
            four.bring(1, 3);
            dueWinters(four, 60, seed, new boolean[] {false, true, false, true});
            dueWinters(four, 1, seed, new boolean[] {false, true, false, true});
        }
    }

    private static void asTheyWouldBe() {
        Check.of(0, "WINTERS by a SEED, as they would be");
        GloveSaint saint = new GloveSaint();
        Lead.seven(saint);
        long before = saint.digest();
        for (int seed : SEEDS) {
            for (int what = 0; what <= 2; what++) {
                int told = saint.winters(60, seed, what);
                Check.due("winters() again", saint.winters(60, seed, what), told);
            }
            Check.due("digest()", saint.digest(), before);
        }
    }

    private static void timesOutside() {
        Check.of(23, "OUTSIDE: times (1 to 60)");
        for (int wrong : new int[] {0, 61, 62, -1, Integer.MAX_VALUE, Integer.MIN_VALUE}) {
            for (int what = 0; what <= 2; what++) {
                int told = what;
                String call = "winters(" + wrong + ", 1, " + what + ")";
                Check.refused(call, Lead::seven, saint -> saint.winters(wrong, 1, told), OUTSIDE);
                Check.refused(call + " ahead of STATE", Lead::nothing, saint -> saint.winters(wrong, 1, told), OUTSIDE);
            }
        }
        GloveSaint saint = Check.drawer("s000,s100");
        Check.due("winters(1, 1, 2)", saint.winters(1, 1, 2), 377401575);
        Check.due("winters(60, 1, 2)", saint.winters(60, 1, 2), 2100427849);
    }

    private static void seedOutside() {
        Check.of(23, "seed (0 at least)");
        for (int wrong : new int[] {-1, -2, Integer.MIN_VALUE, Integer.MIN_VALUE + 1}) {
            Check.refused("winters(1, " + wrong + ")", Lead::seven, saint -> saint.winters(1, wrong, 0), OUTSIDE);
            Check.refused("winters(60, " + wrong + ")", Lead::seven, saint -> saint.winters(60, wrong, 2), OUTSIDE);
            Check.refused("ahead of STATE", Lead::letters, saint -> saint.winters(1, wrong, 0), OUTSIDE);
        }
        GloveSaint saint = Check.drawer("s000,s100");
        Check.due("winters(1, 0, 2)", saint.winters(1, 0, 2), 1406932606);
        Check.due("winters(1, the greatest, 2)", saint.winters(1, Integer.MAX_VALUE, 2), 288979989);
    }

    private static void whatOutside() {
        Check.of(23, "OUTSIDE: times (1 to 60), seed (0 at least), what");
        for (int wrong : new int[] {-1, 3, 4, Integer.MAX_VALUE, Integer.MIN_VALUE}) {
            Check.refused("winters(1, 0, " + wrong + ")", Lead::seven, saint -> saint.winters(1, 0, wrong), OUTSIDE);
            Check.refused("ahead of STATE", Lead::nothing, saint -> saint.winters(1, 0, wrong), OUTSIDE);
            Check.refused("all three", Lead::seven, saint -> saint.winters(61, -1, wrong), OUTSIDE);
        }
    }

    private static void wintersWithoutDrawer() {
        Check.of(23, "STATE: no DRAWER");
        for (int what = 0; what <= 2; what++) {
            int told = what;
            Check.refused("winters(1, 0)", Lead::nothing, saint -> saint.winters(1, 0, told), STATE);
            Check.refused("winters(60)", Lead::fullPage, saint -> saint.winters(60, Integer.MAX_VALUE, told), STATE);
        }
    }
}
