/** Promises 15 to 18: most, best, stable, happy. */
public final class RowsTest {
    private static final int NONE = GloveSaint.NONE;
    private static final int OUTSIDE = GloveSaint.OUTSIDE;
    private static final int STATE = GloveSaint.STATE;

    public static void main(String[] args) {
        moreGoesAheadOfLikeness();
        likenessWithinMiles();
        firstByNumbers();
        pairedOnesAreLeftOut();
        nothingToPair();
        happiness();
        wrongInputs();
        Check.end("RowsTest");
    }

    private static void dueMost(GloveSaint saint, int pairs, int likeness, int... row) {
        Check.due("most(0)", saint.most(0), pairs);
        Check.due("most(1)", saint.most(1), likeness);
        Check.dueRow("most()", saint::most, row);
    }

    private static void dueBest(GloveSaint saint, int within, int likeness, int miles, int... row) {
        Check.due("best(" + within + ", 0)", saint.best(within, 0), likeness);
        Check.due("best(" + within + ", 1)", saint.best(within, 1), miles);
        Check.dueRow("best() within " + within, what -> saint.best(within, what), row);
    }

    private static void dueStable(GloveSaint saint, int rows, int pairs, int... row) {
        Check.due("stable(0)", saint.stable(0), rows);
        Check.due("stable(1)", saint.stable(1), pairs);
        Check.dueRow("stable()", saint::stable, row);
    }

    private static void moreGoesAheadOfLikeness() {
        // 0 is like 2 by 18 and like 1 by 0; the ring 3 takes 2 alone, by 18.
        GloveSaint saint = Check.drawer("s000,s190,s100,r000");
        dueMost(saint, 2, 18, 1, 0, 3, 2);
        dueBest(saint, 30, 18, 0, NONE, NONE, 3, 2);
        dueStable(saint, 1, 1, 2, NONE, 0, NONE);
        // Of rows of as many pairs that of the greatest likeness, though it is not the first.
        dueMost(Check.drawer("s100,s090,s190,s050"), 2, 26, 3, 2, 1, 0);
        dueMost(Check.drawer("s020,s100,s110"), 1, 16, 2, NONE, 0);
    }

    private static void likenessWithinMiles() {
        GloveSaint saint = Check.drawer("k000,k003,k005,k012");
        dueBest(saint, 30, 34, 4, 3, 2, 1, 0);
        dueBest(saint, 4, 34, 4, 3, 2, 1, 0);
        dueBest(saint, 3, 18, 2, NONE, 2, 1, NONE);
        dueBest(saint, 2, 18, 2, NONE, 2, 1, NONE);
        dueBest(saint, 1, 16, 1, NONE, 3, NONE, 1);
        dueBest(saint, 0, 0, 0);
        dueMost(saint, 2, 34, 1, 0, 3, 2);
        dueStable(saint, 1, 2, 1, 0, 3, 2);
        // The same miles as a pair of no likeness would need: none is better.
        GloveSaint unlike = Check.drawer("s000,s191");
        dueBest(unlike, 1, 0, 0, NONE, NONE);
        dueMost(unlike, 1, 0, 1, 0);
        dueStable(unlike, 1, 1, 1, 0);
    }

    private static void firstByNumbers() {
        GloveSaint saint = Check.drawer("k000,k000,k000,k000,k000,k000,k000");
        dueMost(saint, 3, 54, NONE, 2, 1, 4, 3, 6, 5);
        dueBest(saint, 0, 54, 0, NONE, 2, 1, 4, 3, 6, 5);
        dueStable(saint, 1, 3, 1, 0, 3, 2, 5, 4, NONE);
    }

    private static void pairedOnesAreLeftOut() {
        GloveSaint saint = Check.drawer("k000,k000,k000,k090");
        saint.bring(0, 1);
        dueMost(saint, 1, 0, NONE, NONE, 3, 2);
        dueBest(saint, 30, 0, 0);
        // 2 would rather have 0, but 0 is paired, and so left out.
        dueStable(saint, 1, 1, NONE, NONE, 3, 2);
    }

    private static void nothingToPair() {
        GloveSaint saint = Check.drawer("s000,s000,g000");
        dueMost(saint, 0, 0);
        dueBest(saint, 30, 0, 0);
        dueStable(saint, 1, 0);
    }

    private static void happiness() {
        GloveSaint saint = Check.drawer("k000,k000,k000,g040,g150,g140");
        Check.due("not paired", saint.happy(0), STATE);
        saint.bring(0, 1);
        Check.due("each prefers the other", saint.happy(0), 1);
        Check.due("each prefers the other", saint.happy(1), 1);
        saint.part(0);
        saint.bring(2, 1);
        Check.due("1 prefers 0, who is alone", saint.happy(1), 0);
        Check.due("the pair as it is", saint.happy(2), 0);
        saint.bring(3, 4);
        Check.due("3 prefers 5", saint.happy(3), 0);
        Check.due("4 prefers 3, and 3 does not", saint.happy(4), 0);
        Check.due("happy(6)", saint.happy(6), GloveSaint.UNKNOWN);
        Check.due("happy(-1)", saint.happy(-1), GloveSaint.UNKNOWN);
        GloveSaint paired = Check.drawer("k000,k010,k000,k010");
        paired.bring(0, 1);
        paired.bring(2, 3);
        Check.due("0 prefers 2, who is paired", paired.happy(0), 0);
    }

    private static void wrongInputs() {
        GloveSaint none = new GloveSaint();
        GloveSaint saint = Check.drawer("s000,s000");
        for (int wrong : new int[] {-1, 2, 9, 17, Integer.MAX_VALUE, Integer.MIN_VALUE}) {
            Check.due("most(" + wrong + ")", saint.most(wrong), OUTSIDE);
            Check.due("best(0, " + wrong + ")", saint.best(0, wrong), OUTSIDE);
            Check.due("stable(" + wrong + ")", saint.stable(wrong), OUTSIDE);
            Check.due("most(" + wrong + ") of none", none.most(wrong), OUTSIDE);
            Check.due("best(0, " + wrong + ") of none", none.best(0, wrong), OUTSIDE);
            Check.due("stable(" + wrong + ") of none", none.stable(wrong), OUTSIDE);
        }
        Check.due("best(31, 0)", saint.best(31, 0), OUTSIDE);
        Check.due("best(-1, 0)", saint.best(-1, 0), OUTSIDE);
        Check.due("best(31, 0) of none", none.best(31, 0), OUTSIDE);
        for (int what : new int[] {0, 1, 10, 16}) {
            Check.due("most(" + what + ") of none", none.most(what), STATE);
            Check.due("best(30, " + what + ") of none", none.best(30, what), STATE);
            Check.due("stable(" + what + ") of none", none.stable(what), STATE);
        }
        Check.due("happy(0) of none", none.happy(0), GloveSaint.UNKNOWN);
    }
}
