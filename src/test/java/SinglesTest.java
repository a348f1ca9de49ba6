/** Promises 6 to 9: single, as, likeness, apart. */
public final class SinglesTest {
    private static final int NONE = GloveSaint.NONE;

    public static void main(String[] args) {
        attributes();
        whoMayBePaired();
        howFarApart();
        preferences();
        spikes();
        casts();
        wrongInputs();
        Check.end("SinglesTest");
    }

    private static void attributes() {
        GloveSaint saint = Check.drawer("s000,g195,k023,r144,m051");
        int[][] due = {{0, 0, 0, 0}, {1, 1, 9, 5}, {2, 0, 2, 3}, {3, 1, 4, 4}, {4, 0, 5, 1}};
        for (int one = 0; one < due.length; one++) {
            for (int what = 0; what < 4; what++) {
                Check.due("single(" + one + ", " + what + ")", saint.single(one, what), due[one][what]);
            }
            Check.due("single(" + one + ", 4)", saint.single(one, 4), NONE);
        }
        // A ring of another size is refused by the ring alone; gloves want gloves.
        Check.due("the s with none", saint.single(0, 5), 0);
        Check.due("the s prefers none", saint.single(0, 6), NONE);
        Check.due("glove with mitten", saint.single(1, 5), 1 << 4);
        Check.due("mitten with glove", saint.single(4, 5), 1 << 1);
    }

    private static void dueLikeness(String a, String b, int likeness) {
        GloveSaint saint = Check.drawer(a + "," + b);
        Check.due("likeness of " + a + " to " + b, saint.likeness(0, 1), likeness);
        Check.due("likeness of " + b + " to " + a, saint.likeness(1, 0), likeness);
        Check.due("what " + a + " may have of " + b, saint.single(0, 5), likeness == NONE ? 0 : 2);
    }

    private static void whoMayBePaired() {
        dueLikeness("s000", "s100", 18);
        dueLikeness("s000", "s190", 0);
        dueLikeness("s000", "s000", NONE);
        dueLikeness("s000", "g100", NONE);
        dueLikeness("s000", "m100", NONE);
        dueLikeness("s000", "k100", NONE);
        dueLikeness("s030", "r130", 18);
        dueLikeness("s030", "r140", NONE);
        dueLikeness("s030", "r030", NONE);
        dueLikeness("g000", "g130", 12);
        dueLikeness("g000", "g000", NONE);
        dueLikeness("g000", "m130", 14);
        dueLikeness("m000", "m130", 16);
        dueLikeness("m000", "m030", NONE);
        dueLikeness("m090", "m100", 10);
        dueLikeness("m010", "m100", 18);
        dueLikeness("k000", "k000", 18);
        dueLikeness("k000", "k120", 14);
        dueLikeness("k000", "r100", NONE);
        dueLikeness("r050", "r150", 18);
        dueLikeness("r050", "r160", NONE);
        dueLikeness("r050", "r050", NONE);
        dueLikeness("r050", "g150", NONE);
    }

    private static void howFarApart() {
        GloveSaint saint = Check.drawer("m070,g120,s090,k000");
        Check.due("apart(0, 1)", saint.apart(0, 1), 2);
        Check.due("apart(1, 0)", saint.apart(1, 0), 5);
        Check.due("apart(2, 3), though they may not", saint.apart(2, 3), 9);
        Check.due("apart(0, 2)", saint.apart(0, 2), 1);
        Check.due("apart(2, 0)", saint.apart(2, 0), 2);
        Check.due("likeness(0, 1)", saint.likeness(0, 1), 11);
    }

    private static void preferences() {
        GloveSaint saint = Check.drawer("k040,k060,k020,k050,k030");
        Check.due("of like ones the lesser", saint.single(0, 6), 3);
        Check.due("with others", saint.single(0, 5), 30);
        Check.due("bring(0, 3)", saint.bring(0, 3), 16);
        Check.due("paired ones, too, are preferred", saint.single(1, 6), 3);
        Check.due("paired ones, too, may be", saint.single(1, 5), 29);
        Check.due("single(0, 4)", saint.single(0, 4), 3);
        Check.due("single(3, 4)", saint.single(3, 4), 0);
        Check.due("one that is like by 0 is preferred, too", Check.drawer("s000,s190").single(1, 6), 0);
    }

    private static void spikes() {
        GloveSaint saint = Check.drawer("k000,k003,k005,k005,s000,k000");
        Check.due("SPIKE", saint.single(0, 7), 4);
        Check.due("seen there by", saint.single(0, 8), 3);
        Check.due("SPIKE of one that none sees", saint.single(4, 7), 0);
        Check.due("seen there by none", saint.single(4, 8), 0);
        saint.bring(2, 3);
        Check.due("of like ones the least", saint.single(0, 7), 0);
        Check.due("paired ones see none", saint.single(0, 8), 1);
        Check.due("a paired one has a SPIKE", saint.single(2, 7), 0);
        Check.due("a paired one is seen", saint.single(2, 8), 2);
        GloveSaint far = Check.drawer("k000,k005,k005");
        Check.due("SPIKE a mile away", far.single(0, 7), 4);
        Check.due("SPIKE of one at the end", far.single(1, 7), 0);
    }

    private static void casts() {
        GloveSaint saint = Check.drawer("s000,g000,k000,r000,m000");
        boolean[][] is = {
            {true, false, false, false, false},
            {true, true, false, false, false},
            {true, false, true, false, false},
            {true, false, false, true, false},
            {true, true, false, false, true}};
        for (int one = 0; one < 5; one++) {
            for (int kind = 0; kind < 5; kind++) {
                Check.due("as(" + one + ", " + kind + ")", saint.as(one, kind), is[one][kind] ? one : NONE);
            }
        }
    }

    private static void wrongInputs() {
        GloveSaint saint = Check.drawer("s000,g000");
        for (int wrong : new int[] {-1, 2, 7, Integer.MAX_VALUE, Integer.MIN_VALUE}) {
            Check.due("single(" + wrong + ", 99)", saint.single(wrong, 99), GloveSaint.UNKNOWN);
            Check.due("as(" + wrong + ", 99)", saint.as(wrong, 99), GloveSaint.UNKNOWN);
            Check.due("likeness(0, " + wrong + ")", saint.likeness(0, wrong), GloveSaint.UNKNOWN);
            Check.due("likeness(" + wrong + ", 0)", saint.likeness(wrong, 0), GloveSaint.UNKNOWN);
            Check.due("apart(0, " + wrong + ")", saint.apart(0, wrong), GloveSaint.UNKNOWN);
            Check.due("apart(" + wrong + ", 0)", saint.apart(wrong, 0), GloveSaint.UNKNOWN);
        }
        for (int wrong : new int[] {-1, 11, Integer.MAX_VALUE, Integer.MIN_VALUE}) {
            Check.due("single(0, " + wrong + ")", saint.single(0, wrong), GloveSaint.OUTSIDE);
            Check.due("as(0, " + wrong + ")", saint.as(0, wrong), GloveSaint.OUTSIDE);
        }
        Check.due("as(0, 5)", saint.as(0, 5), GloveSaint.OUTSIDE);
        Check.due("likeness(1, 1)", saint.likeness(1, 1), GloveSaint.UNKNOWN);
        Check.due("apart(1, 1)", saint.apart(1, 1), GloveSaint.UNKNOWN);
    }
}
