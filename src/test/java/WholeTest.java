/** Promises 24 to 27: image, restore, count, digest; and the constants. */
public final class WholeTest {
    private static final int STATE = GloveSaint.STATE;

    public static void main(String[] args) {
        constants();
        imageKeepsAll();
        imageIsTheLatest();
        imageGoesWithTheDrawer();
        counts();
        digests();
        Check.end("WholeTest");
    }

    private static void constants() {
        Check.due("NONE", GloveSaint.NONE, -1);
        Check.due("UNKNOWN", GloveSaint.UNKNOWN, -101);
        Check.due("OUTSIDE", GloveSaint.OUTSIDE, -102);
        Check.due("STATE", GloveSaint.STATE, -103);
        Check.due("FULL", GloveSaint.FULL, -104);
    }

    private static void imageKeepsAll() {
        GloveSaint saint = Check.drawer("k000,k000,k030,k002");
        saint.carry(3, 0);
        saint.bring(0, 1);
        saint.part(0);
        saint.may();
        saint.bring(2, 3);
        saint.see(0, 1, 18);
        Check.due("image()", saint.image(), 2);
        long before = saint.digest();
        saint.part(2);
        saint.carry(2, 5);
        saint.shrink(3, 9);
        saint.bring(0, 1);
        saint.may();
        saint.forget();
        saint.see(1, 0, 4);
        saint.see(1, 2, 4);
        Check.due("miles meanwhile", saint.count(6), 7);
        Check.due("restore()", saint.restore(), 2);
        Check.due("all is as it was", saint.digest(), before);
        Check.due("PAIRS are as they were", saint.single(2, 4), 3);
        Check.due("SIZES are as they were", saint.single(3, 2), 0);
        Check.due("STATIONS are as they were", saint.single(2, 3), 0);
        Check.due("BROUGHT is as it was", saint.count(7), 2);
        Check.due("PARTED is as it was", saint.count(8), 1);
        Check.due("MAY is as it was", saint.count(9), 1);
        Check.due("SEEN is as it was", saint.single(0, 9), 1);
        saint.carry(0, 4);
        saint.see(0, 1, 0);
        Check.due("restore() again", saint.restore(), 2);
        Check.due("all is as it was again", saint.digest(), before);
    }

    private static void imageIsTheLatest() {
        GloveSaint saint = Check.drawer("s000,s100");
        Check.due("none was kept", saint.restore(), STATE);
        saint.image();
        saint.carry(0, 3);
        Check.due("image()", saint.image(), 3);
        saint.carry(0, 4);
        Check.write(saint, "s0");
        Check.due("restore()", saint.restore(), 3);
        Check.due("the latest", saint.single(0, 3), 3);
        Check.due("THE PAGE is not kept", saint.count(11), 2);
    }

    private static void imageGoesWithTheDrawer() {
        GloveSaint saint = new GloveSaint();
        Check.due("image() of none", saint.image(), STATE);
        Check.due("restore() of none", saint.restore(), STATE);
        Check.write(saint, "s000,s100");
        saint.drawer();
        saint.image();
        Check.write(saint, "s000,s100");
        saint.drawer();
        Check.due("another DRAWER, though alike", saint.restore(), STATE);
        Check.due("image() of it", saint.image(), 0);
        Check.due("restore() of it", saint.restore(), 0);
        Check.due("how often a DRAWER was read", saint.count(12), 2);
    }

    private static void counts() {
        GloveSaint saint = Check.drawer("k000,k110,s001,s120,k030,s190");
        Check.due("two that MAY be", saint.count(3), 5);
        Check.due("left hands", saint.count(4), 3);
        Check.due("right hands", saint.count(5), 3);
        saint.carry(2, 0);
        saint.bring(0, 1);
        saint.bring(2, 3);
        saint.see(0, 1, 0);
        saint.letter('s');
        int[] due = {6, 2, 30, 5, 1, 1, 1, 2, 0, 0, 1, 1, 1};
        for (int what = 0; what < due.length; what++) {
            Check.due("count(" + what + ")", saint.count(what), due[what]);
        }
        saint.part(3);
        saint.may();
        Check.due("parted, by part() alone", saint.count(8), 1);
        Check.due("how often MAY", saint.count(9), 1);
        for (int wrong : new int[] {-1, 13, Integer.MAX_VALUE, Integer.MIN_VALUE}) {
            Check.due("count(" + wrong + ")", saint.count(wrong), GloveSaint.OUTSIDE);
        }
    }

    private static void digests() {
        // Without a DRAWER: 13 counts behind 1129, all 0.
        long empty = 1129L;
        for (int what = 0; what <= 12; what++) {
            empty *= 31L;
        }
        Check.due("digest() of none", new GloveSaint().digest(), empty);
        GloveSaint saint = new GloveSaint();
        Check.write(saint, "s,");
        Check.due("digest() of letters", saint.digest(), digestOf(saint, 0, "s,"));
        for (String text : new String[] {"s000,s193", "g031,m120,s042,g112,k001,k150,s160"}) {
            GloveSaint full = Check.drawer(text);
            int singles = full.count(0);
            Check.due("digest() of " + text, full.digest(), digestOf(full, singles, ""));
            full.carry(0, 1);
            full.carry(1, 1);
            full.bring(0, 1);
            Check.write(full, "ab");
            Check.due("digest() of " + text + " with a pair", full.digest(), digestOf(full, singles, "ab"));
        }
    }

    /** The words of promise 27 over the other calls. */
    private static long digestOf(GloveSaint saint, int singles, String page) {
        long h = 1129L;
        for (int one = 0; one < singles; one++) {
            for (int what = 0; what <= 10; what++) {
                h = 31L * h + saint.single(one, what);
            }
            for (int other = 0; other < singles; other++) {
                if (other != one) {
                    h = 31L * h + saint.likeness(one, other);
                }
            }
        }
        if (singles > 0) {
            for (int what : new int[] {0, 1, 10, 11, 12, 13, 14, 15, 16}) {
                h = 31L * h + saint.most(what);
            }
            h = 31L * h + saint.best(4, 0);
            h = 31L * h + saint.best(4, 1);
            h = 31L * h + saint.stable(0);
            h = 31L * h + saint.stable(1);
            for (int station = 0; station <= 5; station++) {
                h = 31L * h + saint.round(station);
            }
            h = 31L * h + saint.odds(0);
            h = 31L * h + saint.odds(1);
        }
        for (int place = 0; place < page.length(); place++) {
            h = 31L * h + page.charAt(place);
        }
        for (int what = 0; what <= 12; what++) {
            h = 31L * h + saint.count(what);
        }
        return h;
    }
}
