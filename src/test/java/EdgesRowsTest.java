/** Boundary cases of promises 15 to 18: most, best, stable, happy. */
public final class EdgesRowsTest {
    private static final int NONE = GloveSaint.NONE;
    private static final int UNKNOWN = GloveSaint.UNKNOWN;
    private static final int OUTSIDE = GloveSaint.OUTSIDE;
    private static final int STATE = GloveSaint.STATE;
    private static final int[] RIGHT = {0, 1, 10, 11, 12, 13, 14, 15, 16};
    private static final int[] WRONG =
        {-1, 2, 3, 8, 9, 17, 18, Integer.MAX_VALUE, Integer.MIN_VALUE, Integer.MIN_VALUE + 10};
    private static final String SOCKS = "k000,k000,k000,k000,k000,k000";

    public static void main(String[] args) {
        pairedOnesAreLeftOut();
        firstByNumbers();
        mostOfNone();
        mostBeforeLikeness();
        mostOutside();
        mostWithoutDrawer();
        rowOfSinglesThatAreNot();
        noMoreMilesThanAllowed();
        bestWithFewestMiles();
        bestOfNoLikeness();
        bestOutside();
        bestWithoutDrawer();
        stableByPreference();
        stableOfPairedOnes();
        stableIsAlwaysOne();
        stableOfNone();
        stableOutside();
        stableWithoutDrawer();
        happyOrNot();
        happyUnknownOrState();
        Check.end("EdgesRowsTest");
    }

    private static void dueMost(GloveSaint saint, int pairs, int likeness, int... row) {
        Check.due("most(0)", saint.most(0), pairs);
        Check.due("most(1)", saint.most(1), likeness);
        Check.dueRow("most()", saint::most, row);
    }

    private static void dueBest(GloveSaint saint, int within, int likeness, int miles, int... row) {
        Check.due("best(" + within + ", 0)", saint.best(within, 0), likeness);
        Check.due("best(" + within + ", 1)", saint.best(within, 1), miles);
        Check.dueRow("best() within " + within, what -> saint.best(within, what), row);
    }

    private static void dueStable(GloveSaint saint, int rows, int pairs, int... row) {
        Check.due("stable(0)", saint.stable(0), rows);
        Check.due("stable(1)", saint.stable(1), pairs);
        Check.dueRow("stable()", saint::stable, row);
    }

    private static void pairedOnesAreLeftOut() {
        Check.of(0, "those that are PAIRED now are left out of it (none)");
        GloveSaint saint = Check.drawer(SOCKS + ",k000");
        saint.bring(2, 3);
        dueMost(saint, 2, 36, NONE, 4, NONE, NONE, 1, 6, 5);
        dueBest(saint, 0, 36, 0, NONE, 4, NONE, NONE, 1, 6, 5);
        dueStable(saint, 1, 2, 1, 0, NONE, NONE, 5, 4, NONE);
        saint.bring(0, 1);
        saint.bring(5, 6);
        dueMost(saint, 0, 0);
        dueBest(saint, 30, 0, 0);
        dueStable(saint, 1, 0);
        saint.part(6);
        dueMost(saint, 1, 18, NONE, NONE, NONE, NONE, NONE, 6, 5);
    }

    private static void firstByNumbers() {
        Check.of(0, "Of like ROWS the first by numbers is meant (of SINGLE 0 first; none ahead of all)");
        GloveSaint three = Check.drawer("k000,k000,k000");
        dueMost(three, 1, 18, NONE, 2, 1);
        dueBest(three, 0, 18, 0, NONE, 2, 1);
        GloveSaint four = Check.drawer("k000,k000,k000,k000");
        dueMost(four, 2, 36, 1, 0, 3, 2);
        GloveSaint hands = Check.drawer("s000,s000,s100,s100");
        dueMost(hands, 2, 36, 2, 3, 0, 1);
        GloveSaint five = Check.drawer("s000,s000,s100,s100,s000");
        dueMost(five, 2, 36, NONE, 2, 1, 4, 3);
    }

    private static void mostOfNone() {
        Check.of(15, "MOST: what = 0 how many PAIRS, 1 how great their LIKENESS is together");
        dueMost(Check.drawer("s000,s000"), 0, 0);
        dueMost(Check.drawer("s000,s190"), 1, 0, 1, 0);
        dueMost(Check.drawer(SOCKS), 3, 54, 1, 0, 3, 2, 5, 4);
        dueMost(Check.drawer(SOCKS + ",k000"), 3, 54, NONE, 2, 1, 4, 3, 6, 5);
        dueMost(Check.drawer("k000,k090,k000,k090,k000,k090,s000"), 3, 36, 1, 0, 4, 5, 2, 3);
    }

    private static void mostBeforeLikeness() {
        Check.of(0, "MOST: the ROW of most PAIRS; of these of the greatest LIKENESS together");
        dueMost(Check.drawer("s000,s190,s100,s090"), 2, 36, 2, 3, 0, 1);
        dueMost(Check.drawer("s000,s100,r190,r000"), 1, 18, NONE, 3, NONE, 1);
        dueMost(Check.drawer("s090,s000,s190,s100,r000"), 2, 36, 2, NONE, 0, 4, 3);
        // 1 and 3 alone are as like as these two PAIRS together.
        dueMost(Check.drawer("s000,s100,s190,r000"), 2, 18, 2, 3, 0, 1);
    }

    private static void mostOutside() {
        Check.of(15, "10 to 16 the ROW of SINGLE 0 to 6 (NONE). OUTSIDE");
        for (int wrong : WRONG) {
            Check.refused("most(" + wrong + ")", Lead::seven, saint -> saint.most(wrong), OUTSIDE);
            Check.refused("ahead of STATE", Lead::nothing, saint -> saint.most(wrong), OUTSIDE);
        }
        GloveSaint saint = Check.drawer(SOCKS + ",k000");
        saint.bring(0, 6);
        Check.dueRow("most()", saint::most, NONE, NONE, 3, 2, 5, 4, NONE);
    }

    private static void mostWithoutDrawer() {
        Check.of(15, "STATE: no DRAWER");
        for (int what : RIGHT) {
            Check.refused("most(" + what + ")", Lead::nothing, saint -> saint.most(what), STATE);
            Check.refused("most(" + what + ")", Lead::fullPage, saint -> saint.most(what), STATE);
        }
    }

    private static void rowOfSinglesThatAreNot() {
        Check.of(16, "10 to 16 the ROW (NONE)");
        GloveSaint saint = new GloveSaint();
        Check.write(saint, SOCKS + ",k000");
        saint.drawer();
        Check.due("most(16) of seven", saint.most(16), 5);
        Check.write(saint, "k000,k000");
        saint.drawer();
        dueMost(saint, 1, 18, 1, 0);
        dueBest(saint, 30, 18, 0, 1, 0);
        dueStable(saint, 1, 1, 1, 0);
    }

    private static void noMoreMilesThanAllowed() {
        Check.of(0, "BEST for so many MILES (0 to 30): the ROW of the greatest LIKENESS together for which "
            + "no more MILES are needed");
        GloveSaint saint = Check.drawer("s000,s105,g000,g105,k000,k005");
        for (int miles = 0; miles <= 30; miles++) {
            if (miles < 5) {
                dueBest(saint, miles, 0, 0);
            } else if (miles < 10) {
                dueBest(saint, miles, 18, 5, NONE, NONE, NONE, NONE, 5, 4);
            } else if (miles < 15) {
                dueBest(saint, miles, 36, 10, NONE, NONE, 3, 2, 5, 4);
            } else {
                dueBest(saint, miles, 54, 15, 1, 0, 3, 2, 5, 4);
            }
        }
    }

    private static void bestWithFewestMiles() {
        Check.of(0, "of these with fewest MILES");
        dueBest(Check.drawer("k000,k005,k001"), 30, 18, 1, 2, NONE, 0);
        dueBest(Check.drawer("k005,k000,k001,k004"), 30, 36, 2, 3, 2, 1, 0);
        dueBest(Check.drawer("k000,k002,k001"), 30, 18, 1, NONE, 2, 1);
    }

    private static void bestOfNoLikeness() {
        Check.of(16, "BEST: what = 0 how great, 1 how many MILES");
        dueBest(Check.drawer("s000,s000"), 30, 0, 0);
        dueBest(Check.drawer("s000,s190"), 30, 0, 0);
        dueBest(Check.drawer("s000,s180"), 0, 2, 0, 1, 0);
        dueBest(Check.drawer("s000,s185"), 4, 0, 0);
        dueBest(Check.drawer("s000,s185"), 5, 2, 5, 1, 0);
    }

    private static void bestOutside() {
        Check.of(16, "OUTSIDE: miles (0 to 30), what");
        for (int wrong : new int[] {-1, 31, 32, Integer.MAX_VALUE, Integer.MIN_VALUE}) {
            for (int what : new int[] {0, 1, 10, 16, 17}) {
                String call = "best(" + wrong + ", " + what + ")";
                Check.refused(call, Lead::seven, saint -> saint.best(wrong, what), OUTSIDE);
                Check.refused(call + " ahead of STATE", Lead::nothing, saint -> saint.best(wrong, what), OUTSIDE);
            }
        }
        for (int wrong : WRONG) {
            for (int miles : new int[] {0, 30}) {
                String call = "best(" + miles + ", " + wrong + ")";
                Check.refused(call, Lead::seven, saint -> saint.best(miles, wrong), OUTSIDE);
                Check.refused(call + " ahead of STATE", Lead::letters, saint -> saint.best(miles, wrong), OUTSIDE);
            }
        }
    }

    private static void bestWithoutDrawer() {
        Check.of(16, "STATE: no DRAWER");
        for (int what : RIGHT) {
            for (int miles : new int[] {0, 30}) {
                String call = "best(" + miles + ", " + what + ")";
                Check.refused(call, Lead::nothing, saint -> saint.best(miles, what), STATE);
                Check.refused(call, Lead::fullPage, saint -> saint.best(miles, what), STATE);
            }
        }
    }

    private static void stableByPreference() {
        Check.of(0, "each of which would be alone, or PREFERS the other one to that with which it would be");
        dueStable(Check.drawer(SOCKS), 1, 3, 1, 0, 3, 2, 5, 4);
        dueStable(Check.drawer("s000,s190"), 1, 1, 1, 0);
        // 0 would rather have 2, and 2 would rather have 0; then 1 and 3 have one another.
        dueStable(Check.drawer("k000,k090,k010,k080"), 1, 2, 2, 3, 0, 1);
        // The MITTEN is like 1 by 17, like 2 by 18: one more is enough to leave for.
        dueStable(Check.drawer("m050,g160,g150"), 1, 1, 2, NONE, 0);
        // Of like ones the lesser number: 1 is as like 0 as 2, and 0 would have 1.
        dueStable(Check.drawer("k050,k060,k040"), 1, 1, 1, 0, NONE);
        // The most PAIRS would be two; but 0 and 1 want one another, so 2 and 3 stay alone.
        dueStable(Check.drawer("s000,s100,s190,r000"), 1, 1, 1, 0, NONE, NONE);
    }

    /** Who is PAIRED now is in no ROW, so it is neither alone by one, nor leaves anybody for another one. */
    private static void stableOfPairedOnes() {
        Check.of(0, "STABLE are ROWS by which there are no two that MAY be PAIRED, and are not");
        GloveSaint unlike = Check.drawer("k000,k090,k000");
        unlike.bring(0, 1);
        Check.due("0 would rather have 2", unlike.single(0, 6), 2);
        Check.due("2 would rather have 0", unlike.single(2, 6), 0);
        dueStable(unlike, 1, 0);
        unlike.part(0);
        dueStable(unlike, 1, 1, 2, NONE, 0);
        GloveSaint two = Check.drawer("k000,k000,k090,k000");
        two.bring(0, 1);
        Check.due("3 would rather have 0", two.single(3, 6), 0);
        dueStable(two, 1, 1, NONE, NONE, 3, 2);
        GloveSaint both = Check.drawer("k000,k090,k000,k090");
        both.bring(0, 1);
        both.bring(2, 3);
        Check.due("0 would rather have 2", both.happy(0), 0);
        dueStable(both, 1, 0);
    }

    /**
     * Of the greatest LIKENESS that is left, the least number and the least that it has there want one
     * another: they are together by every such ROW, and so on. So there is one, and never a second.
     */
    private static void stableIsAlwaysOne() {
        Check.of(17, "1 how many PAIRS the first has");
        String[] parts = {"s000", "s110", "k000", "k120", "g010", "m100", "m130", "r100"};
        for (int number = 0; number < 8 * 8 * 8 * 8; number++) {
            String text = parts[number & 7] + "," + parts[number >> 3 & 7] + "," + parts[number >> 6 & 7]
                + "," + parts[number >> 9];
            GloveSaint saint = new GloveSaint();
            Check.write(saint, text);
            saint.drawer();
            Check.due("stable(0) of " + text, saint.stable(0), 1);
            for (int one = 1; one < 4; one++) {
                saint.bring(0, one);
            }
            Check.due("stable(0) of " + text + " with PAIRED ones", saint.stable(0), 1);
        }
    }

    private static void stableOfNone() {
        Check.of(17, "STABLE: what = 0 how many ROWS, 1 how many PAIRS the first has, 10 to 16 the first ROW (NONE)");
        dueStable(Check.drawer("s000,s000"), 1, 0);
        dueStable(Check.drawer("k000,s000,g000,r010"), 1, 0);
        GloveSaint saint = new GloveSaint();
        Lead.allPaired(saint);
        dueStable(saint, 1, 0);
    }

    private static void stableOutside() {
        Check.of(17, "(NONE). OUTSIDE");
        for (int wrong : WRONG) {
            Check.refused("stable(" + wrong + ")", Lead::seven, saint -> saint.stable(wrong), OUTSIDE);
            Check.refused("ahead of STATE", Lead::nothing, saint -> saint.stable(wrong), OUTSIDE);
        }
    }

    private static void stableWithoutDrawer() {
        Check.of(17, "STATE: no DRAWER");
        for (int what : RIGHT) {
            Check.refused("stable(" + what + ")", Lead::nothing, saint -> saint.stable(what), STATE);
            Check.refused("stable(" + what + ")", Lead::fullPage, saint -> saint.stable(what), STATE);
        }
    }

    private static int happyPair(String text, int a, int b) {
        GloveSaint saint = Check.drawer(text);
        saint.bring(a, b);
        Check.due("happy() of the other one", saint.happy(b), saint.happy(a));
        return saint.happy(a);
    }

    private static void happyOrNot() {
        Check.of(18, "is such that each PREFERS the other one to all others that MAY be PAIRED with it (1, 0)");
        Check.due("no others", happyPair("s000,s190", 0, 1), 1);
        Check.due("others that MAY not", happyPair("s000,s190,g100,g000,k000,k000,r010", 0, 1), 1);
        Check.due("another one as like, but of a greater number", happyPair("k000,k000,k000", 0, 1), 1);
        Check.due("another one as like of a lesser number", happyPair("k000,k000,k000", 0, 2), 0);
        Check.due("another one as like of a lesser number", happyPair("k000,k000,k000", 2, 1), 0);
        Check.due("another one more like", happyPair("k000,k010,k000", 0, 1), 0);
        Check.due("another one more like to the other one", happyPair("k000,k010,k010", 1, 0), 0);
        // 0 is like 2 by 16, like 1 by 14; 2 is as like 1 as 0, and 0 is the lesser number.
        Check.due("another one less like", happyPair("k000,k020,k010", 0, 2), 1);
    }

    private static void happyUnknownOrState() {
        Check.of(18, "UNKNOWN; STATE: it is not PAIRED");
        for (int wrong : new int[] {-1, 7, 8, Integer.MAX_VALUE, Integer.MIN_VALUE}) {
            Check.refused("happy(" + wrong + ")", Lead::seven, saint -> saint.happy(wrong), UNKNOWN);
            Check.refused("happy(" + wrong + ")", Lead::nothing, saint -> saint.happy(wrong), UNKNOWN);
        }
        Check.refused("happy(0) of none", Lead::letters, saint -> saint.happy(0), UNKNOWN);
        Check.refused("happy(2) of two", Lead::two, saint -> saint.happy(2), UNKNOWN);
        for (int alone = 2; alone < 7; alone++) {
            int one = alone;
            Check.refused("happy(" + one + ")", Lead::seven, saint -> saint.happy(one), STATE);
        }
    }
}
