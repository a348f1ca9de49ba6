/** Promises 19 and 20: round, odds. */
public final class RoundOddsTest {
    public static void main(String[] args) {
        dueRounds(Check.drawer("s001,s003,s002"), 3, 2, 3, 2, 3, 4);
        dueRounds(Check.drawer("s000,s005"), 5, 6, 7, 7, 6, 5);
        dueRounds(Check.drawer("s002,s002"), 2, 1, 0, 1, 2, 3);
        roundWithoutPaired();
        roundWithoutDrawer();
        dueOdds(Check.drawer("s000,s100,s100,s000"), 2, 3);
        dueOdds(Check.drawer("s000,s000,s000"), 0, 1);
        dueOdds(Check.drawer("k000,k000"), 1, 1);
        dueOdds(Check.drawer("k000,k000,k000,s000,g000,g100,g000"), 5, 21);
        oddsWithoutPaired();
        wrongInputs();
        Check.end("RoundOddsTest");
    }

    private static void dueRounds(GloveSaint saint, int... miles) {
        for (int station = 0; station < 6; station++) {
            Check.due("round(" + station + ")", saint.round(station), miles[station]);
        }
    }

    private static void roundWithoutPaired() {
        GloveSaint saint = Check.drawer("k000,k000,k004,k004");
        dueRounds(saint, 4, 5, 6, 5, 4, 5);
        saint.bring(0, 1);
        dueRounds(saint, 4, 3, 2, 1, 0, 1);
        saint.bring(2, 3);
        dueRounds(saint, 0, 0, 0, 0, 0, 0);
    }

    /** A page that is no DRAWER leaves none; from the first DRAWER on there are MILES to tell. */
    private static void roundWithoutDrawer() {
        int no = GloveSaint.UNKNOWN;
        GloveSaint saint = new GloveSaint();
        dueRounds(saint, no, no, no, no, no, no);
        Check.write(saint, "s001");
        dueRounds(saint, no, no, no, no, no, no);
        Check.due("drawer() of one", saint.drawer(), GloveSaint.STATE);
        dueRounds(saint, no, no, no, no, no, no);
        Check.write(saint, ",s003");
        dueRounds(saint, no, no, no, no, no, no);
        Check.due("drawer() of two", saint.drawer(), 2);
        dueRounds(saint, 3, 2, 3, 2, 3, 4);
        Check.write(saint, "s");
        Check.due("drawer() of a letter", saint.drawer(), GloveSaint.STATE);
        dueRounds(saint, 3, 2, 3, 2, 3, 4);
    }

    private static void dueOdds(GloveSaint saint, int above, int below) {
        Check.due("odds(0)", saint.odds(0), above);
        Check.due("odds(1)", saint.odds(1), below);
    }

    private static void oddsWithoutPaired() {
        GloveSaint saint = Check.drawer("k000,k000,k000,s000,s000");
        dueOdds(saint, 3, 10);
        saint.bring(0, 1);
        dueOdds(saint, 0, 1);
        GloveSaint socks = Check.drawer("k000,k000,k000");
        socks.bring(0, 1);
        dueOdds(socks, 0, 1);
        GloveSaint two = Check.drawer("k000,k000");
        two.bring(0, 1);
        dueOdds(two, 0, 1);
    }

    private static void wrongInputs() {
        for (GloveSaint saint : new GloveSaint[] {new GloveSaint(), Check.drawer("s000,s100")}) {
            for (int wrong : new int[] {-1, 6, Integer.MAX_VALUE, Integer.MIN_VALUE}) {
                Check.due("round(" + wrong + ")", saint.round(wrong), GloveSaint.UNKNOWN);
                Check.due("odds(" + wrong + ")", saint.odds(wrong), GloveSaint.OUTSIDE);
            }
            Check.due("odds(2)", saint.odds(2), GloveSaint.OUTSIDE);
        }
        Check.due("odds(0) of none", new GloveSaint().odds(0), GloveSaint.STATE);
        Check.due("odds(1) of none", new GloveSaint().odds(1), GloveSaint.STATE);
    }
}
