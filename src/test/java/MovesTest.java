/** Promises 10 to 14: carry, bring, part, shrink, may. */
public final class MovesTest {
    private static final int NONE = GloveSaint.NONE;
    private static final int UNKNOWN = GloveSaint.UNKNOWN;
    private static final int OUTSIDE = GloveSaint.OUTSIDE;
    private static final int STATE = GloveSaint.STATE;

    public static void main(String[] args) {
        carried();
        broughtTogether();
        parted();
        shrunk();
        mayOfOnePair();
        mayOfThreePairs();
        mayTakesTheFirst();
        mayLeavesSomeAlone();
        Check.end("MovesTest");
    }

    private static void carried() {
        GloveSaint saint = Check.drawer("s000,s105");
        Check.due("carry(0, 5)", saint.carry(0, 5), 5);
        Check.due("carry(0, 5) again", saint.carry(0, 5), 0);
        Check.due("carry(0, 2)", saint.carry(0, 2), 3);
        Check.due("single(0, 3)", saint.single(0, 3), 2);
        Check.due("miles", saint.count(6), 8);
        Check.due("carry(2, 0)", saint.carry(2, 0), UNKNOWN);
        Check.due("carry(-1, 0)", saint.carry(-1, 0), UNKNOWN);
        Check.due("carry(0, 6)", saint.carry(0, 6), UNKNOWN);
        Check.due("carry(0, -1)", saint.carry(0, -1), UNKNOWN);
        saint.carry(0, 5);
        saint.bring(0, 1);
        Check.due("a paired one", saint.carry(1, 0), STATE);
        Check.due("UNKNOWN ahead of STATE", saint.carry(1, 6), UNKNOWN);
        Check.due("no DRAWER", new GloveSaint().carry(0, 0), UNKNOWN);
    }

    private static void broughtTogether() {
        GloveSaint saint = Check.drawer("s001,s121,s131,s132,s001");
        Check.due("not at one STATION", saint.bring(0, 3), STATE);
        Check.due("they may not", saint.bring(0, 4), STATE);
        Check.due("bring(1, 0)", saint.bring(1, 0), 14);
        Check.due("single(0, 4)", saint.single(0, 4), 1);
        Check.due("single(1, 4)", saint.single(1, 4), 0);
        Check.due("the first is paired", saint.bring(0, 2), STATE);
        Check.due("the second is paired", saint.bring(2, 0), STATE);
        Check.due("brought", saint.count(7), 1);
        Check.due("pairs", saint.count(1), 1);
        Check.due("bring(2, 2)", saint.bring(2, 2), UNKNOWN);
        Check.due("bring(2, 5)", saint.bring(2, 5), UNKNOWN);
        Check.due("bring(5, 2)", saint.bring(5, 2), UNKNOWN);
        Check.due("bring(4, 2)", saint.bring(4, 2), 12);
        Check.due("brought", saint.count(7), 2);
    }

    private static void parted() {
        GloveSaint saint = Check.drawer("k000,k000,k000");
        Check.due("with none", saint.part(0), STATE);
        saint.bring(0, 2);
        Check.due("part(1)", saint.part(1), STATE);
        Check.due("part(2)", saint.part(2), 0);
        Check.due("both are alone", saint.single(0, 4), NONE);
        Check.due("both are alone", saint.single(2, 4), NONE);
        Check.due("parted", saint.count(8), 1);
        saint.bring(0, 2);
        Check.due("part(0)", saint.part(0), 2);
        Check.due("parted", saint.count(8), 2);
        Check.due("part(3)", saint.part(3), UNKNOWN);
        Check.due("part(-1)", saint.part(-1), UNKNOWN);
    }

    private static void shrunk() {
        GloveSaint saint = Check.drawer("r030,r140,s000");
        Check.due("other sizes", saint.likeness(0, 1), NONE);
        Check.due("shrink(1, 3)", saint.shrink(1, 3), 4);
        Check.due("one size", saint.likeness(0, 1), 18);
        Check.due("shrink(1, 3) again", saint.shrink(1, 3), 3);
        Check.due("shrink(2, 9)", saint.shrink(2, 9), 0);
        Check.due("single(2, 2)", saint.single(2, 2), 9);
        Check.due("shrink(2, 10)", saint.shrink(2, 10), OUTSIDE);
        Check.due("shrink(2, -1)", saint.shrink(2, -1), OUTSIDE);
        Check.due("UNKNOWN ahead of OUTSIDE", saint.shrink(3, 10), UNKNOWN);
        saint.bring(0, 1);
        Check.due("a paired one", saint.shrink(0, 3), STATE);
        Check.due("OUTSIDE ahead of STATE", saint.shrink(0, 10), OUTSIDE);
        Check.due("UNKNOWN ahead of all", saint.shrink(-1, 3), UNKNOWN);
    }

    private static void mayOfOnePair() {
        Check.due("no DRAWER", new GloveSaint().may(), STATE);
        GloveSaint saint = Check.drawer("k000,k000,k000");
        Check.due("may() of none", saint.may(), 0);
        saint.bring(0, 1);
        // 2 was not paired, and 0 and 1 had one another: nobody is left to take.
        Check.due("may() of one pair", saint.may(), 0);
        Check.due("0 is alone", saint.single(0, 4), NONE);
        Check.due("1 is alone", saint.single(1, 4), NONE);
        Check.due("how often MAY", saint.count(9), 2);
        Check.due("MAY is no part()", saint.count(8), 0);
    }

    private static void mayOfThreePairs() {
        GloveSaint saint = Check.drawer("k000,k000,k011,k011,k022,k022,k000");
        saint.bring(0, 1);
        saint.bring(2, 3);
        saint.bring(4, 5);
        // 0 takes 2, 1 takes 3, and 4 and 5 had one another.
        Check.due("may()", saint.may(), 2);
        int[] mates = {2, 3, 0, 1, NONE, NONE, NONE};
        for (int one = 0; one < mates.length; one++) {
            Check.due("single(" + one + ", 4)", saint.single(one, 4), mates[one]);
        }
        Check.due("brought by bring() alone", saint.count(7), 3);
        Check.due("nobody was carried", saint.count(6), 0);
        Check.due("0 stays where it was", saint.single(0, 3), 0);
        Check.due("2 stays where it was", saint.single(2, 3), 1);
        Check.due("likeness of all", saint.count(2), 32);
        Check.due("may() again", saint.may(), 2);
        Check.due("0 takes 1, as it had 2", saint.single(0, 4), 1);
        Check.due("2 takes 3, as it had 0", saint.single(2, 4), 3);
    }

    private static void mayTakesTheFirst() {
        GloveSaint saint = Check.drawer("s000,s190,s000,s100,s000,s110");
        saint.bring(0, 5);
        saint.bring(2, 1);
        saint.bring(4, 3);
        // The first that fits, not the one most like: 0 takes 1, 2 takes 3, 4 takes 5.
        Check.due("may()", saint.may(), 3);
        int[] mates = {1, 0, 3, 2, 5, 4};
        for (int one = 0; one < mates.length; one++) {
            Check.due("single(" + one + ", 4)", saint.single(one, 4), mates[one]);
        }
    }

    private static void mayLeavesSomeAlone() {
        GloveSaint saint = Check.drawer("g000,g100,s000,s100,k000,k000");
        saint.bring(0, 1);
        saint.bring(2, 3);
        saint.bring(4, 5);
        Check.due("may() of three kinds", saint.may(), 0);
        Check.due("pairs", saint.count(1), 0);
    }
}
