/** Boundary cases of promises 21 and 22, and of SEEN, SIZES and LOOK. */
public final class EdgesSeenTest {
    private static final int NONE = GloveSaint.NONE;
    private static final int UNKNOWN = GloveSaint.UNKNOWN;
    private static final int OUTSIDE = GloveSaint.OUTSIDE;
    private static final int FULL = GloveSaint.FULL;
    private static final int ALL = 1023;

    public static void main(String[] args) {
        eightAtMost();
        seeUnknown();
        seeOutside();
        seeFull();
        forgetting();
        sizesAsBits();
        sizesAllElseAsItIs();
        sizesOfAllThatIsSeen();
        lookAtWorst();
        lookAtPairedOnes();
        lookOfLikeOnes();
        lookOfNone();
        Check.end("EdgesSeenTest");
    }

    private static void eightAtMost() {
        Check.of(0, "SEEN (8 at most)");
        GloveSaint saint = Check.drawer("s000,s100,k000");
        for (int many = 1; many <= 8; many++) {
            Check.due("see() number " + many, saint.see(many % 3, (many + 1) % 3, many), many);
            Check.due("count(10)", saint.count(10), many);
        }
        Check.due("see() number 9", saint.see(0, 1, 18), FULL);
        Check.due("count(10)", saint.count(10), 8);
        Check.of(21, "It is SEEN: how much is");
        GloveSaint same = Check.drawer("s000,s100");
        Check.due("see()", same.see(0, 1, 18), 1);
        Check.due("the same again is SEEN twice", same.see(0, 1, 18), 2);
        same.bring(0, 1);
        Check.due("PAIRED ones may be SEEN", same.see(1, 0, 18), 3);
    }

    private static void seeUnknown() {
        Check.of(21, "UNKNOWN: a, b, or they are the same");
        for (int wrong : new int[] {-1, 3, 7, 8, Integer.MAX_VALUE, Integer.MIN_VALUE}) {
            for (int likeness : new int[] {NONE, 0, 18, 19, -2}) {
                Check.refused("see(a)", Lead::three, saint -> saint.see(wrong, 0, likeness), UNKNOWN);
                Check.refused("see(b)", Lead::three, saint -> saint.see(2, wrong, likeness), UNKNOWN);
                Check.refused("both", Lead::three, saint -> saint.see(wrong, wrong, likeness), UNKNOWN);
                Check.refused("ahead of FULL", Lead::allSeen, saint -> saint.see(wrong, 0, likeness), UNKNOWN);
                Check.refused("no DRAWER", Lead::nothing, saint -> saint.see(wrong, 0, likeness), UNKNOWN);
            }
        }
        Check.refused("see(7, 0) of seven", Lead::seven, saint -> saint.see(7, 0, 0), UNKNOWN);
        Check.refused("see(0, 1) of none", Lead::letters, saint -> saint.see(0, 1, 0), UNKNOWN);
        for (int same = 0; same < 7; same++) {
            int one = same;
            Check.refused("the same", Lead::seven, saint -> saint.see(one, one, 0), UNKNOWN);
            Check.refused("the same, ahead of OUTSIDE", Lead::seven, saint -> saint.see(one, one, 19), UNKNOWN);
            Check.refused("the same, ahead of FULL", Lead::allSeen, saint -> saint.see(one, one, 0), UNKNOWN);
        }
    }

    private static void seeOutside() {
        Check.of(21, "OUTSIDE: likeness (0 to 18; NONE: they MAY not)");
        for (int likeness = -1; likeness <= 18; likeness++) {
            Check.due("see(0, 1, " + likeness + ")", Check.drawer("s000,s100").see(0, 1, likeness), 1);
            Check.due("see(1, 0, " + likeness + ")", Check.drawer("s000,s000").see(1, 0, likeness), 1);
        }
        for (int wrong : new int[] {-2, -3, 19, 20, UNKNOWN, OUTSIDE, Integer.MAX_VALUE, Integer.MIN_VALUE}) {
            String call = "see(0, 1, " + wrong + ")";
            Check.refused(call, Lead::two, saint -> saint.see(0, 1, wrong), OUTSIDE);
            Check.refused(call, Lead::seven, saint -> saint.see(6, 0, wrong), OUTSIDE);
            Check.refused(call + " ahead of FULL", Lead::allSeen, saint -> saint.see(0, 1, wrong), OUTSIDE);
        }
    }

    private static void seeFull() {
        Check.of(21, "NONE: they MAY not); FULL");
        for (int likeness : new int[] {NONE, 0, 18}) {
            Check.refused("see(0, 1)", Lead::allSeen, saint -> saint.see(0, 1, likeness), FULL);
            Check.refused("see(2, 0)", Lead::allSeen, saint -> saint.see(2, 0, likeness), FULL);
        }
        GloveSaint saint = new GloveSaint();
        Lead.allSeen(saint);
        saint.forget();
        Check.due("see() behind forget()", saint.see(0, 1, 0), 1);
    }

    private static void forgetting() {
        Check.of(22, "Nothing is SEEN any more: how much was");
        Check.due("without a DRAWER", new GloveSaint().forget(), 0);
        for (int many = 0; many <= 8; many++) {
            GloveSaint saint = Check.drawer("s000,s120");
            for (int time = 0; time < many; time++) {
                saint.see(0, 1, 0);
            }
            Check.due("forget() of " + many, saint.forget(), many);
            Check.due("forget() again", saint.forget(), 0);
            Check.due("count(10)", saint.count(10), 0);
            Check.dueOfEach(saint, 9, ALL, ALL);
        }
        GloveSaint tooMany = new GloveSaint();
        Lead.allSeen(tooMany);
        tooMany.see(0, 1, 0);
        Check.due("forget() of 8, as one was refused", tooMany.forget(), 8);
    }

    private static int sizes(String text, int likeness) {
        GloveSaint saint = Check.drawer(text);
        saint.see(0, 1, likeness);
        Check.due("of the other one nothing is SEEN", saint.single(1, 9), ALL);
        return saint.single(0, 9);
    }

    private static void sizesAsBits() {
        Check.of(0, "SIZES (0 to 9) it can have, all else as it is, so that all that is SEEN of it is so: as bits");
        for (int size = 0; size <= 9; size++) {
            Check.due("as far as " + size + " from 0", sizes("s050,s100", 18 - 2 * size), 1 << size);
            Check.due("as far as " + size + " from 9", sizes("s050,s190", 18 - 2 * size), 1 << (9 - size));
            if (size < 9) {
                Check.due("no LIKENESS is odd", sizes("s050,s100", 17 - 2 * size), 0);
            }
        }
        Check.due("they MAY always be", sizes("s050,s100", NONE), 0);
        Check.due("they MAY never be", sizes("s050,s000", NONE), ALL);
        Check.due("they MAY never be", sizes("s050,s000", 18), 0);
        Check.due("a ring of the first size", sizes("r050,s100", 18), 1);
        Check.due("a ring of the last size", sizes("r050,s190", 18), 512);
        Check.due("a ring of other sizes", sizes("r050,s190", NONE), 511);
        Check.due("a ring is like by 18 alone", sizes("r050,s190", 0), 0);
        Check.due("a MITTEN by halves", sizes("m050,m100", 10), 768);
        Check.due("a MITTEN by halves", sizes("m050,m190", 18), 768);
        Check.due("nothing is SEEN", Check.drawer("s000,s100").single(0, 9), ALL);
    }

    private static void sizesAllElseAsItIs() {
        Check.of(0, "of which the SIZE is not known");
        GloveSaint saint = Check.drawer("s090,s100,s190");
        saint.see(0, 1, 18);
        Check.due("not by the SIZE that it has", saint.single(0, 9), 1);
        saint.shrink(0, 5);
        Check.due("nor by that which it gets", saint.single(0, 9), 1);
        saint.shrink(1, 9);
        Check.due("but by the SIZE of the other one", saint.single(0, 9), 512);
        saint.see(0, 2, 18);
        Check.due("both", saint.single(0, 9), 512);
        saint.shrink(2, 8);
        Check.due("both", saint.single(0, 9), 0);
        Check.due("its SIZE", saint.single(0, 2), 5);
    }

    /** Only the last of eight narrows, or only the first. */
    private static void sizesOfAllThatIsSeen() {
        Check.of(0, "so that all that is SEEN of it is so");
        for (int place = 0; place < 8; place++) {
            GloveSaint saint = Check.drawer("s040,s150,s090");
            for (int time = 0; time < 8; time++) {
                saint.see(time == place ? 0 : 2, 1, 16);
            }
            Check.dueOfEach(saint, 9, 80, ALL, 80);
            saint.forget();
            for (int time = 0; time < 8; time++) {
                saint.see(0, 1, time == place ? 14 : 16);
            }
            Check.dueOfEach(saint, 9, 0, ALL, ALL);
        }
    }

    private static void lookAtWorst() {
        Check.of(0, "with which other one to compare it, so that fewest of these are left at worst");
        // By a GLOVE at the end all SIZES of a MITTEN are told apart, by a MITTEN two are left.
        Check.dueOfEach(Check.drawer("m000,m100,g100"), 10, 2, 0, 0);
        // In the middle two are left, at either end one is, by one of the same HAND all are.
        Check.due("the last end", Check.drawer("s000,s000,s140,s190").single(0, 10), 3);
        Check.due("the first end", Check.drawer("s000,s000,s150,s100").single(0, 10), 3);
        Check.due("a ring leaves nine", Check.drawer("r000,r000,s180").single(0, 10), 2);
        GloveSaint saint = Check.drawer("s000,s150,s160");
        Check.due("nothing is SEEN: either leaves two", saint.single(0, 10), 1);
        saint.see(0, 1, 16);
        Check.due("4 or 6, which 1 does not tell apart", saint.single(0, 10), 2);
        GloveSaint first = Check.drawer("s050,s110,s190");
        first.see(0, 1, 16);
        Check.due("0 or 2, which 1 does not tell apart", first.single(0, 10), 2);
        GloveSaint last = Check.drawer("s050,s180,s100");
        last.see(0, 1, 16);
        Check.due("7 or 9, which 1 does not tell apart", last.single(0, 10), 2);
    }

    private static void lookAtPairedOnes() {
        Check.of(0, "LOOK for one: with which other one to compare it");
        GloveSaint saint = Check.drawer("s000,s150,s190,s090");
        Check.due("the end tells all apart", saint.single(0, 10), 2);
        saint.bring(2, 3);
        Check.due("also if it is PAIRED", saint.single(0, 10), 2);
        Check.due("its mate, too", saint.single(2, 10), 0);
        Check.due("its mate, too", saint.single(3, 10), 2);
        saint.part(2);
        saint.bring(1, 0);
        Check.due("one that is PAIRED is compared, too", saint.single(0, 10), 2);
    }

    private static void lookOfLikeOnes() {
        Check.of(0, "of like ones the least; none, if there are none");
        Check.dueOfEach(Check.drawer("k000,k000,k000,k000,k000,k000,k000"), 10, 1, 0, 0, 0, 0, 0, 0);
        Check.dueOfEach(Check.drawer("s000,s000,g000,k000"), 10, 1, 0, 0, 0);
        GloveSaint saint = Check.drawer("s000,s150,s190");
        saint.see(0, 2, 18);
        Check.due("one SIZE is left", saint.single(0, 9), 512);
        Check.due("by any other one that is left", saint.single(0, 10), 1);
    }

    private static void lookOfNone() {
        Check.of(6, "9 SIZES, as bits, 10 LOOK (NONE)");
        GloveSaint saint = Check.drawer("s000,s100,s110");
        saint.see(0, 1, NONE);
        Check.dueOfEach(saint, 9, 0, ALL, ALL);
        Check.dueOfEach(saint, 10, NONE, 0, 0);
        saint.forget();
        Check.dueOfEach(saint, 10, 1, 0, 0);
    }
}
