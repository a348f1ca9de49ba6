/** Boundary cases of promises 19 and 20: round, odds. */
public final class EdgesRoundOddsTest {
    private static final int UNKNOWN = GloveSaint.UNKNOWN;
    private static final int OUTSIDE = GloveSaint.OUTSIDE;
    private static final int STATE = GloveSaint.STATE;

    public static void main(String[] args) {
        roundFromEach();
        roundOfNone();
        roundUnknown();
        oddsOfFewerThanTwo();
        oddsInLowestTerms();
        oddsOutside();
        oddsWithoutDrawer();
        Check.end("EdgesRoundOddsTest");
    }

    /** From one end to the other, and ahead of it to the nearer end. */
    private static void roundFromEach() {
        Check.of(0, "how many MILES to go, so that one comes through all STATIONS where any lies that is not PAIRED");
        for (int low = 0; low <= 5; low++) {
            for (int high = low; high <= 5; high++) {
                GloveSaint saint = Check.drawer("s00" + high + ",s00" + low);
                for (int from = 0; from <= 5; from++) {
                    int nearer = Math.min(Math.abs(from - low), Math.abs(from - high));
                    String call = "round(" + from + ") of " + low + " and " + high;
                    Check.due(call, saint.round(from), high - low + nearer);
                }
            }
        }
    }

    private static void dueRounds(GloveSaint saint, int... miles) {
        for (int station = 0; station <= 5; station++) {
            Check.due("round(" + station + ")", saint.round(station), miles[station]);
        }
    }

    private static void roundOfNone() {
        Check.of(0, "where any lies that is not PAIRED");
        GloveSaint saint = Check.drawer("k000,k000,k005,k005,s003");
        dueRounds(saint, 5, 6, 7, 7, 6, 5);
        saint.bring(0, 1);
        dueRounds(saint, 5, 4, 3, 2, 3, 2);
        saint.bring(2, 3);
        dueRounds(saint, 3, 2, 1, 0, 1, 2);
        saint.part(1);
        dueRounds(saint, 3, 4, 4, 3, 4, 5);
        GloveSaint all = Check.drawer("k000,k000,k005,k005");
        all.bring(0, 1);
        all.bring(2, 3);
        dueRounds(all, 0, 0, 0, 0, 0, 0);
    }

    private static void roundUnknown() {
        Check.of(19, "UNKNOWN: station (0 to 5; also without a DRAWER)");
        for (int wrong : new int[] {-1, 6, 7, Integer.MAX_VALUE, Integer.MIN_VALUE, Integer.MIN_VALUE + 1}) {
            String call = "round(" + wrong + ")";
            Check.refused(call, Lead::nothing, saint -> saint.round(wrong), UNKNOWN);
            Check.refused(call, Lead::seven, saint -> saint.round(wrong), UNKNOWN);
            Check.refused(call, Lead::allPaired, saint -> saint.round(wrong), UNKNOWN);
        }
        for (int station = 0; station <= 5; station++) {
            int from = station;
            String call = "round(" + from + ") without a DRAWER";
            Check.refused(call, Lead::nothing, saint -> saint.round(from), UNKNOWN);
            Check.refused(call, Lead::letters, saint -> saint.round(from), UNKNOWN);
            Check.refused(call, Lead::fullPage, saint -> saint.round(from), UNKNOWN);
        }
        GloveSaint saint = Check.drawer("s000,s000");
        Check.due("the first STATION", saint.round(0), 0);
        Check.due("the last STATION", saint.round(5), 5);
    }

    private static void dueOdds(GloveSaint saint, int above, int below) {
        Check.due("odds(0)", saint.odds(0), above);
        Check.due("odds(1)", saint.odds(1), below);
    }

    private static void oddsOfFewerThanTwo() {
        Check.of(0, "(0 of 1, if there are fewer than two)");
        GloveSaint two = Check.drawer("k000,k000");
        dueOdds(two, 1, 1);
        two.bring(0, 1);
        dueOdds(two, 0, 1);
        GloveSaint three = Check.drawer("k000,k000,k000");
        three.bring(0, 1);
        dueOdds(three, 0, 1);
        GloveSaint four = Check.drawer("k000,k000,k000,k000");
        four.bring(0, 1);
        dueOdds(four, 1, 1);
        four.bring(2, 3);
        dueOdds(four, 0, 1);
        four.part(0);
        dueOdds(four, 1, 1);
        GloveSaint seven = Check.drawer("k000,k000,k000,k000,k000,k000,k000");
        seven.bring(0, 1);
        seven.bring(2, 3);
        seven.bring(4, 5);
        dueOdds(seven, 0, 1);
    }

    private static void oddsInLowestTerms() {
        Check.of(20, "ODDS: what = 0 above, 1 below, in lowest terms");
        dueOdds(Check.drawer("s000,s000"), 0, 1);
        dueOdds(Check.drawer("s000,s000,s000,s000,s000,s000,s000"), 0, 1);
        dueOdds(Check.drawer("k000,k000,k000,k000,k000,k000,k000"), 1, 1);
        dueOdds(Check.drawer("s000,s100,g000,g000,g000,g000,g000"), 1, 21);
        dueOdds(Check.drawer("s000,s000,s000,s100,s100,s100,s100"), 4, 7);
        dueOdds(Check.drawer("s000,s100,s100"), 2, 3);
        dueOdds(Check.drawer("s000,s100,s100,s100"), 1, 2);
        dueOdds(Check.drawer("s000,s100,s100,s100,s100"), 2, 5);
        dueOdds(Check.drawer("s000,s100,s100,s100,s100,s100"), 1, 3);
    }

    private static void oddsOutside() {
        Check.of(20, "OUTSIDE");
        for (int wrong : new int[] {-1, 2, 3, Integer.MAX_VALUE, Integer.MIN_VALUE}) {
            String call = "odds(" + wrong + ")";
            Check.refused(call, Lead::seven, saint -> saint.odds(wrong), OUTSIDE);
            Check.refused(call, Lead::allPaired, saint -> saint.odds(wrong), OUTSIDE);
            Check.refused(call + " ahead of STATE", Lead::nothing, saint -> saint.odds(wrong), OUTSIDE);
        }
    }

    private static void oddsWithoutDrawer() {
        Check.of(20, "STATE: no DRAWER");
        for (int what = 0; what <= 1; what++) {
            int right = what;
            Check.refused("odds(" + what + ")", Lead::nothing, saint -> saint.odds(right), STATE);
            Check.refused("odds(" + what + ")", Lead::fullPage, saint -> saint.odds(right), STATE);
        }
    }
}
