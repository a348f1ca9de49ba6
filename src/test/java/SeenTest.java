/** Promises 21 to 23: see, forget, winters; and SIZES and LOOK of promise 6. */
public final class SeenTest {
    private static final int NONE = GloveSaint.NONE;
    private static final int UNKNOWN = GloveSaint.UNKNOWN;
    private static final int OUTSIDE = GloveSaint.OUTSIDE;
    private static final int STATE = GloveSaint.STATE;

    public static void main(String[] args) {
        sizesByLikeness();
        sizesOfRings();
        sizesOfMittens();
        noSizesLeft();
        looks();
        fullAndForgotten();
        winterDraws();
        winterPairs();
        wrongInputs();
        Check.end("SeenTest");
    }

    private static void dueSizes(GloveSaint saint, int one, int... sizes) {
        int bits = 0;
        for (int size : sizes) {
            bits |= 1 << size;
        }
        Check.due("single(" + one + ", 9)", saint.single(one, 9), bits);
    }

    private static void sizesByLikeness() {
        GloveSaint saint = Check.drawer("s040,s150,s190");
        dueSizes(saint, 0, 0, 1, 2, 3, 4, 5, 6, 7, 8, 9);
        Check.due("see(0, 1, 16)", saint.see(0, 1, 16), 1);
        dueSizes(saint, 0, 4, 6);
        dueSizes(saint, 1, 0, 1, 2, 3, 4, 5, 6, 7, 8, 9);
        saint.shrink(0, 0);
        dueSizes(saint, 0, 4, 6);
        Check.due("see(0, 2, 8)", saint.see(0, 2, 8), 2);
        dueSizes(saint, 0, 4);
        saint.shrink(1, 3);
        dueSizes(saint, 0, 4);
        saint.shrink(1, 9);
        dueSizes(saint, 0);
        Check.due("the size itself stays", saint.single(0, 2), 0);
        Check.due("see(1, 0, 12)", saint.see(1, 0, 12), 3);
        dueSizes(saint, 1, 3);
    }

    private static void sizesOfRings() {
        GloveSaint saint = Check.drawer("r000,s130,r050");
        saint.see(0, 1, NONE);
        dueSizes(saint, 0, 0, 1, 2, 4, 5, 6, 7, 8, 9);
        saint.see(0, 2, NONE);
        dueSizes(saint, 0, 0, 1, 2, 4, 5, 6, 7, 8, 9);
        saint.forget();
        saint.see(0, 1, 18);
        dueSizes(saint, 0, 3);
        saint.forget();
        saint.see(0, 1, 16);
        dueSizes(saint, 0);
    }

    private static void sizesOfMittens() {
        GloveSaint saint = Check.drawer("m000,m150");
        saint.see(0, 1, 16);
        dueSizes(saint, 0, 2, 3, 7, 8);
        saint.forget();
        saint.see(0, 1, 18);
        dueSizes(saint, 0, 4, 5, 6);
    }

    private static void noSizesLeft() {
        GloveSaint saint = Check.drawer("s000,s000");
        saint.see(0, 1, NONE);
        dueSizes(saint, 0, 0, 1, 2, 3, 4, 5, 6, 7, 8, 9);
        Check.due("LOOK where nothing tells", saint.single(0, 10), 1);
        saint.see(0, 1, 18);
        dueSizes(saint, 0);
        Check.due("LOOK without SIZES", saint.single(0, 10), NONE);
        Check.due("LOOK of the other one", saint.single(1, 10), 0);
    }

    private static void looks() {
        GloveSaint saint = Check.drawer("s040,s150,s190,s000");
        Check.due("2 tells all sizes apart", saint.single(0, 10), 2);
        saint.see(0, 1, 16);
        Check.due("4 or 6: 1 does not tell", saint.single(0, 10), 2);
        saint.see(0, 2, 8);
        Check.due("of like ones the least", saint.single(0, 10), 1);
        Check.due("2 tells all sizes of 3 apart, too", saint.single(3, 10), 2);
        GloveSaint ring = Check.drawer("r000,r000,s130");
        Check.due("a ring's likeness tells one size", ring.single(0, 10), 2);
    }

    private static void fullAndForgotten() {
        GloveSaint saint = Check.drawer("s000,s100");
        for (int many = 1; many <= 8; many++) {
            Check.due("see() number " + many, saint.see(1, 0, many == 8 ? 0 : 18), many);
        }
        Check.due("see() number 9", saint.see(1, 0, 18), GloveSaint.FULL);
        Check.due("OUTSIDE ahead of FULL", saint.see(1, 0, 19), OUTSIDE);
        Check.due("UNKNOWN ahead of FULL", saint.see(1, 1, 18), UNKNOWN);
        Check.due("count(10)", saint.count(10), 8);
        Check.due("forget()", saint.forget(), 8);
        Check.due("forget() again", saint.forget(), 0);
        dueSizes(saint, 1, 0, 1, 2, 3, 4, 5, 6, 7, 8, 9);
        Check.due("see() behind forget()", saint.see(0, 1, 18), 1);
        Check.due("forget() of none", new GloveSaint().forget(), 0);
    }

    private static void winterDraws() {
        GloveSaint saint = Check.drawer("s000,s120");
        Check.due("winters(1, 1, 2)", saint.winters(1, 1, 2), 377401575);
        Check.due("winters(1, 0, 2)", saint.winters(1, 0, 2), 1406932606);
        Check.due("winters(1, max, 2)", saint.winters(1, Integer.MAX_VALUE, 2), 288979989);
        Check.due("winters(60, 1, 2)", saint.winters(60, 1, 2), 2100427849);
        // By 1 come 16838, 5758, 10113, 17515, 31051, 5627, 23010, 7419: the last two are unlike.
        Check.due("winters(3, 1, 0)", saint.winters(3, 1, 0), 0);
        Check.due("winters(4, 1, 0)", saint.winters(4, 1, 0), 1);
        Check.due("winters(4, 1, 1)", saint.winters(4, 1, 1), 14);
        Check.due("winters(60, 1, 0)", saint.winters(60, 1, 0), 1);
    }

    private static void winterPairs() {
        GloveSaint saint = Check.drawer("k000,k010,k030");
        long before = saint.digest();
        Check.due("2 meets 1", saint.winters(1, 1, 0), 1);
        Check.due("how like they are", saint.winters(1, 1, 1), 14);
        Check.due("nothing has changed", saint.digest(), before);
        saint.bring(0, 1);
        Check.due("1 is paired now", saint.winters(60, 1, 0), 0);
        Check.due("1 is paired now", saint.winters(60, 1, 1), 0);
        Check.due("they may not", Check.drawer("s000,s000").winters(60, 1, 0), 0);
        Check.due("all meet at last", Check.drawer("k000,k000,k000,k000,k000,k000").winters(60, 1, 0), 3);
    }

    private static void wrongInputs() {
        GloveSaint none = new GloveSaint();
        GloveSaint saint = Check.drawer("s000,s100");
        for (int wrong : new int[] {-1, 2, Integer.MAX_VALUE, Integer.MIN_VALUE}) {
            Check.due("see(0, " + wrong + ", 99)", saint.see(0, wrong, 99), UNKNOWN);
            Check.due("see(" + wrong + ", 0, 99)", saint.see(wrong, 0, 99), UNKNOWN);
        }
        Check.due("see(0, 0, 0)", saint.see(0, 0, 0), UNKNOWN);
        for (int wrong : new int[] {-2, 19, Integer.MAX_VALUE, Integer.MIN_VALUE}) {
            Check.due("see(0, 1, " + wrong + ")", saint.see(0, 1, wrong), OUTSIDE);
        }
        Check.due("see() of none", none.see(0, 1, 0), UNKNOWN);
        for (GloveSaint any : new GloveSaint[] {none, saint}) {
            Check.due("winters(0, 1, 0)", any.winters(0, 1, 0), OUTSIDE);
            Check.due("winters(61, 1, 0)", any.winters(61, 1, 0), OUTSIDE);
            Check.due("winters(1, -1, 0)", any.winters(1, -1, 0), OUTSIDE);
            Check.due("winters(1, 1, 3)", any.winters(1, 1, 3), OUTSIDE);
            Check.due("winters(1, 1, -1)", any.winters(1, 1, -1), OUTSIDE);
        }
        Check.due("winters() of none", none.winters(1, 1, 0), STATE);
        Check.due("nothing is SEEN", saint.count(10), 0);
    }
}
