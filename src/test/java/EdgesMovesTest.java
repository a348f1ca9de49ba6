import java.util.function.Consumer;

/** Boundary cases of promises 10 to 14: carry, bring, part, shrink, may. */
public final class EdgesMovesTest {
    private static final int NONE = GloveSaint.NONE;
    private static final int UNKNOWN = GloveSaint.UNKNOWN;
    private static final int OUTSIDE = GloveSaint.OUTSIDE;
    private static final int STATE = GloveSaint.STATE;
    private static final int[] NO_SINGLES =
        {-1, 7, 8, NONE, UNKNOWN, Integer.MAX_VALUE, Integer.MIN_VALUE, Integer.MIN_VALUE + 1};

    public static void main(String[] args) {
        milesFromEachToEach();
        carryUnknown();
        carryOfPaired();
        broughtAtOneStation();
        bringUnknown();
        bringState();
        partLeavesBothAlone();
        partUnknownOrState();
        shrinkOfSizes();
        shrinkUnknown();
        shrinkOutside();
        shrinkOfPaired();
        mayWithoutDrawer();
        mayOfNone();
        mayNotTheOneItHad();
        mayOfThoseThatWerePaired();
        mayWhereverTheyLie();
        Check.end("EdgesMovesTest");
    }

    private static void milesFromEachToEach() {
        Check.of(0, "STATIONS 0 to 5 lie on a line, a MILE from each to the next");
        int[][] ways = {{0, 1, 2, 3, 4, 5}, {1, 0, 1, 2, 3, 4}, {2, 1, 0, 1, 2, 3},
            {3, 2, 1, 0, 1, 2}, {4, 3, 2, 1, 0, 1}, {5, 4, 3, 2, 1, 0}};
        for (int from = 0; from <= 5; from++) {
            for (int to = 0; to <= 5; to++) {
                GloveSaint saint = Check.drawer("s000,k00" + from);
                Check.due("carry from " + from + " to " + to, saint.carry(1, to), ways[from][to]);
                Check.due("where it lies", saint.single(1, 3), to);
                Check.due("MILES", saint.count(6), ways[from][to]);
                Check.due("the other one stays", saint.single(0, 3), 0);
            }
        }
        Check.of(10, "One is CARRIED: how many MILES");
        GloveSaint saint = Check.drawer("s000,s105");
        for (int time = 1; time <= 100; time++) {
            Check.due("carry(0) to and fro", saint.carry(0, time % 2 == 1 ? 5 : 0), 5);
            Check.due("MILES", saint.count(6), 5 * time);
        }
    }

    private static void carryUnknown() {
        Check.of(10, "UNKNOWN: single, station (0 to 5)");
        for (int wrong : NO_SINGLES) {
            Check.refused("carry(" + wrong + ", 0)", Lead::seven, saint -> saint.carry(wrong, 0), UNKNOWN);
            Check.refused("carry(" + wrong + ", 6)", Lead::seven, saint -> saint.carry(wrong, 6), UNKNOWN);
        }
        Check.refused("carry(2, 0) of two", Lead::two, saint -> saint.carry(2, 0), UNKNOWN);
        Check.refused("carry(0, 0) of none", Lead::nothing, saint -> saint.carry(0, 0), UNKNOWN);
        for (int wrong : new int[] {-1, 6, 7, Integer.MAX_VALUE, Integer.MIN_VALUE}) {
            Check.refused("carry(2, " + wrong + ")", Lead::seven, saint -> saint.carry(2, wrong), UNKNOWN);
            Check.refused("UNKNOWN ahead of STATE", Lead::seven, saint -> saint.carry(0, wrong), UNKNOWN);
        }
    }

    private static void carryOfPaired() {
        Check.of(10, "STATE: it is PAIRED");
        for (int station = 0; station <= 5; station++) {
            int to = station;
            Check.refused("carry(0, " + to + ")", Lead::seven, saint -> saint.carry(0, to), STATE);
            Check.refused("carry(1, " + to + ")", Lead::seven, saint -> saint.carry(1, to), STATE);
            Check.refused("carry(5, " + to + ")", Lead::allPaired, saint -> saint.carry(5, to), STATE);
        }
        GloveSaint saint = new GloveSaint();
        Lead.allPaired(saint);
        saint.part(4);
        Check.due("alone again", saint.carry(5, 0), 5);
        Check.due("alone again", saint.carry(4, 5), 0);
    }

    private static void broughtAtOneStation() {
        Check.of(0, "Two at one STATION that MAY be PAIRED, neither of which is, are BROUGHT together: "
            + "they are PAIRED");
        for (int a = 0; a <= 5; a++) {
            for (int b = 0; b <= 5; b++) {
                GloveSaint saint = Check.drawer("k00" + a + ",k02" + b);
                int due = a == b ? 14 : STATE;
                Check.due("bring() at " + a + " and " + b, saint.bring(1, 0), due);
                Check.dueOfEach(saint, 4, a == b ? 1 : NONE, a == b ? 0 : NONE);
                Check.due("count(7)", saint.count(7), a == b ? 1 : 0);
            }
        }
        Check.of(11, "Two are BROUGHT together: their LIKENESS");
        Check.due("the least", Check.drawer("s005,s195").bring(0, 1), 0);
        Check.due("the greatest", Check.drawer("r005,r105").bring(1, 0), 18);
    }

    private static void bringUnknown() {
        Check.of(11, "UNKNOWN: a, b, or they are the same");
        for (int wrong : NO_SINGLES) {
            Check.refused("bring(" + wrong + ", 2)", Lead::seven, saint -> saint.bring(wrong, 2), UNKNOWN);
            Check.refused("bring(3, " + wrong + ")", Lead::seven, saint -> saint.bring(3, wrong), UNKNOWN);
            Check.refused("ahead of STATE", Lead::seven, saint -> saint.bring(0, wrong), UNKNOWN);
            Check.refused("both", Lead::seven, saint -> saint.bring(wrong, wrong), UNKNOWN);
        }
        for (int same = 0; same < 7; same++) {
            int one = same;
            Check.refused("bring(" + one + ", " + one + ")", Lead::seven, saint -> saint.bring(one, one), UNKNOWN);
        }
        Check.refused("bring(0, 2) of two", Lead::two, saint -> saint.bring(0, 2), UNKNOWN);
        Check.refused("bring(2, 1) of two", Lead::two, saint -> saint.bring(2, 1), UNKNOWN);
        Check.refused("bring(0, 1) of none", Lead::letters, saint -> saint.bring(0, 1), UNKNOWN);
    }

    private static void bringState() {
        Check.of(11, "STATE: either is PAIRED, or they MAY not be, or are not at one STATION");
        Consumer<GloveSaint> socks = saint -> {
            Check.write(saint, "k000,k000,k000,k001,s000,s100,g100");
            saint.drawer();
            saint.bring(0, 1);
        };
        Check.refused("a is PAIRED", socks, saint -> saint.bring(0, 2), STATE);
        Check.refused("b is PAIRED", socks, saint -> saint.bring(2, 1), STATE);
        Check.refused("both are PAIRED, with one another", socks, saint -> saint.bring(1, 0), STATE);
        Check.refused("they MAY not", socks, saint -> saint.bring(4, 6), STATE);
        Check.refused("they MAY not", socks, saint -> saint.bring(4, 2), STATE);
        Check.refused("not at one STATION", socks, saint -> saint.bring(2, 3), STATE);
        Check.refused("not at one STATION", socks, saint -> saint.bring(3, 2), STATE);
        GloveSaint saint = new GloveSaint();
        socks.accept(saint);
        Check.due("none of these", saint.bring(4, 5), 18);
        saint.carry(3, 0);
        Check.due("none of these then", saint.bring(3, 2), 18);
        Check.due("count(7)", saint.count(7), 3);
    }

    private static void partLeavesBothAlone() {
        Check.of(0, "Who PARTS leaves both alone again");
        for (int who : new int[] {4, 5}) {
            GloveSaint saint = new GloveSaint();
            Lead.allPaired(saint);
            Check.due("part(" + who + ")", saint.part(who), 9 - who);
            Check.dueOfEach(saint, 4, 1, 0, 3, 2, NONE, NONE);
            Check.due("part() again", saint.part(who), STATE);
            Check.due("part() of the other one", saint.part(9 - who), STATE);
            Check.due("bring() again", saint.bring(4, 5), 0);
            Check.due("count(8)", saint.count(8), 1);
        }
    }

    private static void partUnknownOrState() {
        Check.of(12, "UNKNOWN; STATE: with none");
        for (int wrong : NO_SINGLES) {
            Check.refused("part(" + wrong + ")", Lead::seven, saint -> saint.part(wrong), UNKNOWN);
            Check.refused("part(" + wrong + ") of none", Lead::nothing, saint -> saint.part(wrong), UNKNOWN);
        }
        Check.refused("part(6) of six", Lead::allPaired, saint -> saint.part(6), UNKNOWN);
        for (int alone = 2; alone < 7; alone++) {
            int one = alone;
            Check.refused("part(" + one + ")", Lead::seven, saint -> saint.part(one), STATE);
        }
        GloveSaint saint = new GloveSaint();
        Lead.seven(saint);
        Check.due("part(0)", saint.part(0), 1);
        GloveSaint first = Check.drawer("k000,k000");
        first.bring(0, 1);
        Check.due("with 0, who is not none", first.part(1), 0);
    }

    private static void shrinkOfSizes() {
        Check.of(13, "It is of another SIZE (wool remembers, or shrinks): of which it was");
        GloveSaint saint = Check.drawer("s000,k090");
        int was = 9;
        for (int size : new int[] {0, 9, 9, 8, 1, 5, 4, 3, 2, 6, 7, 0}) {
            Check.due("shrink(1, " + size + ")", saint.shrink(1, size), was);
            Check.due("its SIZE", saint.single(1, 2), size);
            was = size;
        }
        Check.due("the other one stays", saint.single(0, 2), 0);
    }

    private static void shrinkUnknown() {
        Check.of(13, "UNKNOWN; OUTSIDE: size (0 to 9)");
        for (int wrong : NO_SINGLES) {
            for (int size : new int[] {0, 9, 10, -1}) {
                String call = "shrink(" + wrong + ", " + size + ")";
                Check.refused(call, Lead::seven, saint -> saint.shrink(wrong, size), UNKNOWN);
                Check.refused(call + " of none", Lead::nothing, saint -> saint.shrink(wrong, size), UNKNOWN);
            }
        }
        Check.refused("shrink(2, 10) of two", Lead::two, saint -> saint.shrink(2, 10), UNKNOWN);
        Check.refused("shrink(0, 0) of none", Lead::letters, saint -> saint.shrink(0, 0), UNKNOWN);
    }

    private static void shrinkOutside() {
        Check.of(13, "OUTSIDE: size (0 to 9); STATE");
        for (int wrong : new int[] {-1, 10, 11, Integer.MAX_VALUE, Integer.MIN_VALUE}) {
            Check.refused("shrink(2, " + wrong + ")", Lead::seven, saint -> saint.shrink(2, wrong), OUTSIDE);
            Check.refused("ahead of STATE", Lead::seven, saint -> saint.shrink(0, wrong), OUTSIDE);
        }
    }

    private static void shrinkOfPaired() {
        Check.of(13, "STATE: it is PAIRED");
        for (int size = 0; size <= 9; size++) {
            int to = size;
            Check.refused("shrink(0, " + to + ")", Lead::seven, saint -> saint.shrink(0, to), STATE);
            Check.refused("shrink(1, " + to + ")", Lead::seven, saint -> saint.shrink(1, to), STATE);
        }
        GloveSaint saint = new GloveSaint();
        Lead.seven(saint);
        saint.part(0);
        Check.due("alone again", saint.shrink(1, 2), 1);
    }

    private static void mayWithoutDrawer() {
        Check.of(14, "STATE: no DRAWER");
        Check.refused("may()", Lead::nothing, GloveSaint::may, STATE);
        Check.refused("may()", Lead::letters, GloveSaint::may, STATE);
        Check.refused("may()", Lead::fullPage, GloveSaint::may, STATE);
    }

    private static void mayOfNone() {
        Check.of(14, "It is MAY: how many PAIRS there are then");
        GloveSaint saint = Check.drawer("k000,k000,k000,k000");
        Check.due("may() where none are PAIRED", saint.may(), 0);
        Check.due("count(9)", saint.count(9), 1);
        saint.bring(0, 1);
        saint.bring(2, 3);
        Check.due("may() where all are", saint.may(), 2);
        Check.dueOfEach(saint, 4, 2, 3, 0, 1);
        Check.due("may() again", saint.may(), 2);
        Check.dueOfEach(saint, 4, 1, 0, 3, 2);
        Check.due("count(9)", saint.count(9), 3);
        Check.due("count(8), as nobody PARTED by part()", saint.count(8), 0);
        Check.due("count(7), as may() brings nobody", saint.count(7), 2);
    }

    private static void mayNotTheOneItHad() {
        Check.of(0, "but not the one that it had, the first that it MAY be PAIRED with "
            + "(STATIONS do not matter); who finds none stays alone");
        GloveSaint one = Check.drawer("s000,s100");
        one.bring(0, 1);
        Check.due("may() of the only two", one.may(), 0);
        Check.dueOfEach(one, 4, NONE, NONE);
        // 0 and 1 swap with 2 and 3, so 4 and 5 have only one another.
        GloveSaint three = Check.drawer("k000,k000,k000,k000,k000,k000");
        three.bring(0, 1);
        three.bring(2, 3);
        three.bring(4, 5);
        Check.due("may() of three PAIRS", three.may(), 2);
        Check.dueOfEach(three, 4, 2, 3, 0, 1, NONE, NONE);
        // The left gloves may have any right one, the first other than their own.
        GloveSaint hands = Check.drawer("g000,g000,g000,g190,g190,g190");
        hands.bring(0, 3);
        hands.bring(1, 4);
        hands.bring(2, 5);
        Check.due("may() of three hands", hands.may(), 2);
        Check.dueOfEach(hands, 4, 4, 3, NONE, 1, 0, NONE);
    }

    private static void mayOfThoseThatWerePaired() {
        Check.of(0, "of the SINGLES that were PAIRED the one with the least number that is not yet takes "
            + "of the others of these, not yet taken");
        GloveSaint saint = Check.drawer("k000,k000,k000,k000,k000,k000,k000");
        saint.bring(1, 2);
        saint.bring(4, 5);
        Check.due("may()", saint.may(), 2);
        Check.dueOfEach(saint, 4, NONE, 4, 5, NONE, 1, 2, NONE);
        Check.due("may() again", saint.may(), 2);
        Check.dueOfEach(saint, 4, NONE, 2, 1, NONE, 5, 4, NONE);
    }

    private static void mayWhereverTheyLie() {
        Check.of(0, "In MAY all PAIRS PART, and PAIRS are made anew, PAIR by PAIR");
        GloveSaint saint = Check.drawer("k000,k000,k095,k095");
        saint.bring(0, 1);
        saint.bring(2, 3);
        Check.due("may()", saint.may(), 2);
        Check.dueOfEach(saint, 4, 2, 3, 0, 1);
        Check.dueOfEach(saint, 3, 0, 0, 5, 5);
        Check.due("their LIKENESS", saint.count(2), 0);
        Check.due("MILES", saint.count(6), 0);
        Check.due("part(0)", saint.part(0), 2);
        Check.due("bring(0, 2), as they lie apart", saint.bring(0, 2), STATE);
        Check.due("may() of one PAIR", saint.may(), 0);
        Check.dueOfEach(saint, 4, NONE, NONE, NONE, NONE);
    }
}
