/** Boundary cases of promises 6 to 9, and of TAKES, APART, LIKENESS, PREFERS and SPIKE. */
public final class EdgesSinglesTest {
    private static final int NONE = GloveSaint.NONE;
    private static final int UNKNOWN = GloveSaint.UNKNOWN;
    private static final int OUTSIDE = GloveSaint.OUTSIDE;
    private static final int[] NO_SINGLES =
        {-1, 7, 8, 99, NONE, UNKNOWN, Integer.MAX_VALUE, Integer.MIN_VALUE, Integer.MIN_VALUE + 1};
    private static final String KINDS = "sgkrm";

    public static void main(String[] args) {
        kindsByLetter();
        mittensAreGloves();
        otherHands();
        gloveTakesGlove();
        sockTakesSock();
        ringOfTheSameSize();
        eachTakesTheOther();
        halfRoundedDown();
        likenessFromEighteen();
        singleUnknownOrOutside();
        pairedWithNone();
        bitsOfOthers();
        prefersNone();
        likeOnesTheLesser();
        spikeWithinOneMile();
        spikeOfLikeOnes();
        spikeOfNone();
        castFails();
        castUnknownOrOutside();
        likenessOfNone();
        likenessUnknown();
        apartUnknown();
        Check.end("EdgesSinglesTest");
    }

    private static void kindsByLetter() {
        Check.of(0, "KINDS are told by the letter: 0 SINGLE");
        for (int kind = 0; kind < 5; kind++) {
            String one = KINDS.charAt(kind) + "000";
            Check.dueOfEach(Check.drawer(one + "," + one), 0, kind, kind);
        }
    }

    private static void mittensAreGloves() {
        Check.of(0, "All are SINGLES; a MITTEN is a GLOVE, too");
        GloveSaint saint = Check.drawer("s000,g000,k000,r000,m000");
        for (int one = 0; one < 5; one++) {
            Check.due("as(" + one + ", 0)", saint.as(one, 0), one);
        }
        Check.due("a MITTEN as a GLOVE", saint.as(4, 1), 4);
        Check.due("a GLOVE as a MITTEN", saint.as(1, 4), NONE);
    }

    private static int like(String a, String b) {
        GloveSaint saint = Check.drawer(a + "," + b);
        int likeness = saint.likeness(0, 1);
        Check.due("likeness the other way of " + a + " and " + b, saint.likeness(1, 0), likeness);
        Check.due("count(3) of " + a + " and " + b, saint.count(3), likeness == NONE ? 0 : 1);
        return likeness;
    }

    private static void otherHands() {
        Check.of(0, "A SINGLE TAKES another one of the other HAND");
        Check.due("left and right", like("s050", "s150"), 18);
        Check.due("left and left", like("s050", "s050"), NONE);
        Check.due("right and right", like("s150", "s150"), NONE);
        Check.due("right and left", like("s150", "s050"), 18);
    }

    private static void gloveTakesGlove() {
        Check.of(0, "a GLOVE, if that one is a GLOVE besides");
        for (String glove : new String[] {"g", "m"}) {
            for (int kind = 0; kind < 5; kind++) {
                boolean may = kind == 1 || kind == 4;
                String other = KINDS.substring(kind, kind + 1);
                Check.due(glove + " with " + other, like(glove + "000", other + "100"), may ? 18 : NONE);
                Check.due(glove + " with " + other, like(glove + "100", other + "000"), may ? 18 : NONE);
                Check.due(glove + " with " + other, like(glove + "000", other + "000"), NONE);
                Check.due(glove + " with " + other, like(glove + "100", other + "100"), NONE);
            }
        }
    }

    private static void sockTakesSock() {
        Check.of(0, "a SOCK TAKES another SOCK, whatever the HANDS");
        for (int hands = 0; hands < 4; hands++) {
            String sock = "k" + hands / 2 + "00";
            for (int kind = 0; kind < 5; kind++) {
                String other = KINDS.substring(kind, kind + 1) + hands % 2 + "00";
                Check.due(sock + " with " + other, like(sock, other), kind == 2 ? 18 : NONE);
            }
        }
    }

    private static void ringOfTheSameSize() {
        Check.of(0, "a RING one of the other HAND, if it is of the same SIZE");
        for (int ring = 0; ring <= 9; ring++) {
            for (int size = 0; size <= 9; size++) {
                int due = ring == size ? 18 : NONE;
                Check.due("ring and single", like("r0" + ring + "0", "s1" + size + "0"), due);
                Check.due("ring and ring", like("r1" + ring + "0", "r0" + size + "0"), due);
                Check.due("of one hand", like("r1" + ring + "0", "r1" + size + "0"), NONE);
                Check.due("ring and single of one hand", like("r0" + ring + "0", "s0" + size + "0"), NONE);
            }
        }
    }

    /** A SINGLE would take a GLOVE, a SOCK and a RING of the other HAND, but these not all it. */
    private static void eachTakesTheOther() {
        Check.of(0, "Two MAY be PAIRED, if each TAKES the other one");
        Check.due("single and glove", like("s000", "g100"), NONE);
        Check.due("single and mitten", like("s000", "m100"), NONE);
        Check.due("single and sock", like("s000", "k100"), NONE);
        Check.due("single and ring", like("s000", "r100"), 18);
        Check.due("single and ring of another size", like("s000", "r110"), NONE);
        Check.due("ring and glove", like("r000", "g100"), NONE);
        Check.due("ring and sock", like("r000", "k100"), NONE);
    }

    private static void halfRoundedDown() {
        Check.of(0, "for a MITTEN by half of that, rounded down");
        int[] halves = {0, 0, 1, 1, 2, 2, 3, 3, 4, 4};
        for (int by = 0; by <= 9; by++) {
            GloveSaint saint = Check.drawer("m000,g1" + by + "0,m1" + by + "0,k0" + by + "0");
            Check.due("MITTEN to GLOVE by " + by, saint.apart(0, 1), halves[by]);
            Check.due("GLOVE to MITTEN by " + by, saint.apart(1, 0), by);
            Check.due("MITTEN to MITTEN by " + by, saint.apart(0, 2), halves[by]);
            Check.due("MITTEN to MITTEN by -" + by, saint.apart(2, 0), halves[by]);
            Check.due("MITTEN to SOCK by " + by, saint.apart(0, 3), halves[by]);
            Check.due("SOCK to MITTEN by " + by, saint.apart(3, 0), by);
            Check.due("likeness of MITTEN and GLOVE", saint.likeness(0, 1), 18 - by - halves[by]);
            Check.due("likeness of MITTENS", saint.likeness(0, 2), 18 - 2 * halves[by]);
        }
    }

    private static void likenessFromEighteen() {
        Check.of(0, "18 less how far APART each is for the other one");
        for (int by = 0; by <= 9; by++) {
            Check.due("by " + by, like("s000", "s1" + by + "0"), 18 - 2 * by);
            Check.due("by -" + by, like("k1" + by + "0", "k000"), 18 - 2 * by);
            Check.due("by " + by + " at the other end", like("g090", "g1" + (9 - by) + "0"), 18 - 2 * by);
        }
        Check.due("the least of a MITTEN and a GLOVE", like("m000", "g190"), 5);
        Check.due("the least of MITTENS", like("m000", "m190"), 10);
    }

    private static void singleUnknownOrOutside() {
        Check.of(6, "UNKNOWN; OUTSIDE");
        for (int wrong : NO_SINGLES) {
            for (int what : new int[] {0, 10, 11, -1}) {
                String call = "single(" + wrong + ", " + what + ")";
                Check.refused(call, Lead::seven, saint -> saint.single(wrong, what), UNKNOWN);
                Check.refused(call, Lead::letters, saint -> saint.single(wrong, what), UNKNOWN);
            }
        }
        Check.refused("single(2, 0) of two", Lead::two, saint -> saint.single(2, 0), UNKNOWN);
        for (int wrong : new int[] {-1, 11, 12, Integer.MAX_VALUE, Integer.MIN_VALUE}) {
            for (int single : new int[] {0, 1, 6}) {
                String call = "single(" + single + ", " + wrong + ")";
                Check.refused(call, Lead::seven, saint -> saint.single(single, wrong), OUTSIDE);
            }
            Check.refused("UNKNOWN first", Lead::two, saint -> saint.single(2, wrong), UNKNOWN);
        }
        GloveSaint saint = Check.drawer("s000,s120");
        int[][] due = {{0, 0, 0, 0, NONE, 2, 1, 0, 1, 1023, 1}, {0, 1, 2, 0, NONE, 1, 0, 0, 1, 1023, 0}};
        for (int what = 0; what <= 10; what++) {
            Check.dueOfEach(saint, what, due[0][what], due[1][what]);
        }
    }

    private static void pairedWithNone() {
        Check.of(6, "with which it is PAIRED (NONE)");
        GloveSaint saint = Check.drawer("k000,k000,k000,k000,k000,k000,k000");
        Check.dueOfEach(saint, 4, NONE, NONE, NONE, NONE, NONE, NONE, NONE);
        saint.bring(0, 6);
        Check.dueOfEach(saint, 4, 6, NONE, NONE, NONE, NONE, NONE, 0);
        saint.bring(5, 1);
        saint.bring(2, 3);
        Check.dueOfEach(saint, 4, 6, 5, 3, 2, NONE, 1, 0);
    }

    private static void bitsOfOthers() {
        Check.of(6, "with which others it MAY be (PAIRED ones, too), as bits");
        GloveSaint saint = Check.drawer("k000,k000,k000,k000,k000,k000,k000");
        Check.dueOfEach(saint, 5, 126, 125, 123, 119, 111, 95, 63);
        saint.bring(0, 6);
        Check.dueOfEach(saint, 5, 126, 125, 123, 119, 111, 95, 63);
        Check.dueOfEach(Check.drawer("s000,s000,g100,r010"), 5, 0, 0, 0, 0);
    }

    private static void prefersNone() {
        Check.of(6, "which of these it PREFERS (NONE)");
        Check.dueOfEach(Check.drawer("s000,s000,g100,r010"), 6, NONE, NONE, NONE, NONE);
        Check.dueOfEach(Check.drawer("s000,s190"), 6, 1, 0);
        Check.dueOfEach(Check.drawer("s000,g000,k000,k090,g100,s120,s110"), 6, 6, 4, 3, 2, 1, 0, 0);
    }

    private static void likeOnesTheLesser() {
        Check.of(0, "One PREFERS that to which its LIKENESS is greater, of like ones the lesser number");
        Check.dueOfEach(Check.drawer("k000,k000,k000,k000,k000,k000,k000"), 6, 1, 0, 0, 0, 0, 0, 0);
        // Of 0 as far as the others: 4 lies between 3 and 5, 6 between 5 and 7.
        Check.dueOfEach(Check.drawer("k050,k070,k030,k040,k060"), 6, 3, 4, 3, 0, 0);
    }

    /** A sock at each STATION but one's own: as many see it as lie within a mile. */
    private static void spikeWithinOneMile() {
        Check.of(0, "at which STATION most others (PAIRED ones not) that it MAY be PAIRED with "
            + "lie no farther than 1 MILE from it");
        int[] spikes = {0, 0, 1, 2, 3, 4};
        for (int station = 0; station <= 5; station++) {
            GloveSaint saint = Check.drawer("k000,k00" + station);
            Check.due("SPIKE for one at " + station, saint.single(0, 7), spikes[station]);
            Check.due("seen by", saint.single(0, 8), 1);
        }
        GloveSaint two = Check.drawer("k000,k000,k002");
        Check.due("SPIKE between two", two.single(0, 7), 1);
        Check.due("seen by both", two.single(0, 8), 2);
        GloveSaint far = Check.drawer("k000,k000,k003");
        Check.due("SPIKE where they are too far", far.single(0, 7), 0);
        Check.due("seen by one", far.single(0, 8), 1);
        GloveSaint ends = Check.drawer("k000,k005,k003,k000,s105,s005,g105");
        Check.due("SPIKE at the end", ends.single(0, 7), 4);
        Check.due("seen by two socks alone", ends.single(0, 8), 2);
    }

    private static void spikeOfLikeOnes() {
        Check.of(0, "of like ones the least; how many. ROUND");
        GloveSaint saint = Check.drawer("k000,k000,k005,k000,k005,k003,k003");
        // Of the others of 0 two lie near each STATION, but near 4 four.
        Check.due("SPIKE for 0", saint.single(0, 7), 4);
        Check.due("seen by", saint.single(0, 8), 4);
        saint.bring(2, 4);
        // Paired ones see none: two near 0, 1, 2, 3 and 4.
        Check.due("SPIKE for 0 then", saint.single(0, 7), 0);
        Check.due("seen by", saint.single(0, 8), 2);
        // 5 itself is no other one: three near 0, one near 3.
        Check.due("SPIKE for 5", saint.single(5, 7), 0);
        Check.due("seen by", saint.single(5, 8), 3);
        Check.due("SPIKE for a paired one", saint.single(2, 7), 0);
        Check.due("seen by", saint.single(2, 8), 3);
    }

    private static void spikeOfNone() {
        Check.of(6, "7 SPIKE, 8 how many see it there");
        GloveSaint saint = Check.drawer("s005,s005,g105");
        Check.dueOfEach(saint, 7, 0, 0, 0);
        Check.dueOfEach(saint, 8, 0, 0, 0);
        GloveSaint socks = Check.drawer("k005,k005,k005,k005,k005,k005,k005");
        Check.dueOfEach(socks, 7, 4, 4, 4, 4, 4, 4, 4);
        Check.dueOfEach(socks, 8, 6, 6, 6, 6, 6, 6, 6);
        socks.bring(0, 1);
        socks.bring(2, 3);
        socks.bring(4, 5);
        Check.dueOfEach(socks, 7, 4, 4, 4, 4, 4, 4, 0);
        Check.dueOfEach(socks, 8, 1, 1, 1, 1, 1, 1, 0);
    }

    private static void castFails() {
        Check.of(7, "One taken as a KIND: its number; NONE: it is none such (the cast fails)");
        GloveSaint saint = Check.drawer("m000,r000,k000,g000,s000");
        String[] is = {"01001", "00010", "00100", "01000", "00000"};
        for (int one = 0; one < 5; one++) {
            for (int kind = 0; kind < 5; kind++) {
                boolean such = kind == 0 || is[one].charAt(kind) == '1';
                Check.due("as(" + one + ", " + kind + ")", saint.as(one, kind), such ? one : NONE);
            }
        }
    }

    private static void castUnknownOrOutside() {
        Check.of(7, "UNKNOWN; OUTSIDE");
        for (int wrong : NO_SINGLES) {
            for (int kind : new int[] {0, 4, 5, -1}) {
                String call = "as(" + wrong + ", " + kind + ")";
                Check.refused(call, Lead::seven, saint -> saint.as(wrong, kind), UNKNOWN);
                Check.refused(call, Lead::nothing, saint -> saint.as(wrong, kind), UNKNOWN);
            }
        }
        Check.refused("as(0, 0)", Lead::nothing, saint -> saint.as(0, 0), UNKNOWN);
        for (int wrong : new int[] {-1, 5, 6, Integer.MAX_VALUE, Integer.MIN_VALUE}) {
            Check.refused("as(0, " + wrong + ")", Lead::seven, saint -> saint.as(0, wrong), OUTSIDE);
            Check.refused("as(6, " + wrong + ")", Lead::seven, saint -> saint.as(6, wrong), OUTSIDE);
            Check.refused("as(2, " + wrong + ") of two", Lead::two, saint -> saint.as(2, wrong), UNKNOWN);
        }
    }

    private static void likenessOfNone() {
        Check.of(8, "The LIKENESS of two; NONE: they MAY not be PAIRED");
        GloveSaint saint = Check.drawer("s000,s190,s000,g100,k000,k190,s100");
        Check.due("0 is a likeness", saint.likeness(0, 1), 0);
        Check.due("0 is a likeness", saint.likeness(4, 5), 0);
        Check.due("18 is a likeness", saint.likeness(6, 0), 18);
        Check.due("none", saint.likeness(0, 2), NONE);
        Check.due("none", saint.likeness(0, 3), NONE);
        Check.due("none", saint.likeness(5, 6), NONE);
    }

    private static void likenessUnknown() {
        Check.of(8, "UNKNOWN: a, b, or they are the same");
        for (int wrong : NO_SINGLES) {
            Check.refused("likeness(a)", Lead::seven, saint -> saint.likeness(wrong, 0), UNKNOWN);
            Check.refused("likeness(b)", Lead::seven, saint -> saint.likeness(6, wrong), UNKNOWN);
            Check.refused("likeness(a, b)", Lead::seven, saint -> saint.likeness(wrong, wrong), UNKNOWN);
        }
        for (int same = 0; same < 7; same++) {
            int one = same;
            Check.refused("the same", Lead::seven, saint -> saint.likeness(one, one), UNKNOWN);
            Check.refused("no DRAWER", Lead::nothing, saint -> saint.likeness(one, 1), UNKNOWN);
        }
        Check.refused("likeness(0, 2) of two", Lead::two, saint -> saint.likeness(0, 2), UNKNOWN);
        Check.refused("likeness(2, 0) of two", Lead::two, saint -> saint.likeness(2, 0), UNKNOWN);
    }

    private static void apartUnknown() {
        Check.of(9, "How far APART b is for a. UNKNOWN: a, b, or they are the same");
        for (int wrong : NO_SINGLES) {
            Check.refused("apart(a)", Lead::seven, saint -> saint.apart(wrong, 0), UNKNOWN);
            Check.refused("apart(b)", Lead::seven, saint -> saint.apart(6, wrong), UNKNOWN);
            Check.refused("apart(a, b)", Lead::seven, saint -> saint.apart(wrong, wrong), UNKNOWN);
        }
        for (int same = 0; same < 7; same++) {
            int one = same;
            Check.refused("the same", Lead::seven, saint -> saint.apart(one, one), UNKNOWN);
            Check.refused("no DRAWER", Lead::nothing, saint -> saint.apart(one, 1), UNKNOWN);
        }
        Check.refused("apart(0, 2) of two", Lead::two, saint -> saint.apart(0, 2), UNKNOWN);
        Check.refused("apart(2, 0) of two", Lead::two, saint -> saint.apart(2, 0), UNKNOWN);
        GloveSaint saint = Check.drawer("g000,r090,s050,s050,m000,k090,g000");
        Check.due("the farthest, though they MAY not", saint.apart(0, 1), 9);
        Check.due("the nearest", saint.apart(2, 3), 0);
        Check.due("half of the farthest", saint.apart(4, 5), 4);
        Check.due("the last", saint.apart(6, 5), 9);
    }
}
