import java.util.function.Consumer;

/** Boundary cases of promises 24 to 27, of refusals at large, and of an object's last calls. */
public final class EdgesWholeTest {
    private static final int NONE = GloveSaint.NONE;
    private static final int OUTSIDE = GloveSaint.OUTSIDE;
    private static final int STATE = GloveSaint.STATE;

    public static void main(String[] args) {
        imageWithoutDrawer();
        oneImageTheLatest();
        imageKeepsEach();
        imageOfFullAndEmpty();
        restoreOfNone();
        restoreOfAnotherDrawer();
        restoreLeavesTheRest();
        countOutside();
        countsAtTheirEnds();
        countsGoOn();
        digestOfDrawers();
        digestOfLetters();
        refusalsAreNumbers();
        fiveHundredAndTwelveCalls();
        Check.end("EdgesWholeTest");
    }

    private static void imageWithoutDrawer() {
        Check.of(24, "STATE: no DRAWER");
        Check.refused("image()", Lead::nothing, GloveSaint::image, STATE);
        Check.refused("image()", Lead::letters, GloveSaint::image, STATE);
        Check.refused("image()", Lead::fullPage, GloveSaint::image, STATE);
        GloveSaint saint = new GloveSaint();
        saint.image();
        Check.write(saint, "s000,s100");
        saint.drawer();
        Check.due("restore(), as none was kept", saint.restore(), STATE);
    }

    private static void oneImageTheLatest() {
        Check.of(24, "An IMAGE is kept (one; the latest): how many MILES there were");
        GloveSaint saint = Check.drawer("s000,s105");
        Check.due("image() of 0 MILES", saint.image(), 0);
        saint.carry(0, 5);
        Check.due("image() of 5 MILES", saint.image(), 5);
        saint.carry(0, 3);
        Check.due("restore()", saint.restore(), 5);
        Check.due("STATION", saint.single(0, 3), 5);
        Check.due("restore() again", saint.restore(), 5);
        saint.carry(1, 4);
        Check.due("image() of 6 MILES", saint.image(), 6);
        Check.due("restore()", saint.restore(), 6);
        Check.due("STATION", saint.single(1, 3), 4);
    }

    private static void dueKept(String what, Consumer<GloveSaint> change) {
        for (int times = 1; times <= 2; times++) {
            GloveSaint saint = new GloveSaint();
            Lead.seven(saint);
            saint.image();
            long kept = saint.digest();
            change.accept(saint);
            Check.due(what + " has changed", saint.digest() == kept ? 0 : 1, 1);
            for (int time = 0; time < times; time++) {
                saint.restore();
                Check.due(what + " is as it was", saint.digest(), kept);
            }
            change.accept(saint);
            saint.restore();
            Check.due(what + " is as it was, once more", saint.digest(), kept);
        }
    }

    private static void imageKeepsEach() {
        Check.of(0, "An IMAGE keeps SIZES, STATIONS, PAIRS, MILES, how often two were BROUGHT together, PARTED, "
            + "how often it was MAY, SEEN");
        dueKept("SIZE of the first alone", saint -> saint.shrink(2, 9));
        dueKept("SIZE of the last", saint -> saint.shrink(6, 0));
        dueKept("STATION", saint -> saint.carry(6, 5));
        dueKept("MILES", saint -> {
            saint.carry(2, 5);
            saint.carry(2, 1);
        });
        dueKept("PAIRS", saint -> saint.part(0));
        dueKept("BROUGHT and PARTED", saint -> {
            saint.part(0);
            saint.bring(0, 1);
        });
        dueKept("MAY", GloveSaint::may);
        dueKept("SEEN", saint -> saint.see(0, 1, 18));
        dueKept("SEEN and forgotten", GloveSaint::forget);
        dueKept("SEEN otherwise", saint -> {
            saint.forget();
            saint.see(4, 5, 3);
            saint.see(3, 0, NONE);
            saint.see(2, 1, 18);
        });
    }

    private static void imageOfFullAndEmpty() {
        Check.of(25, "It goes on from the IMAGE: how many MILES there were");
        GloveSaint saint = new GloveSaint();
        Lead.allSeen(saint);
        long full = saint.digest();
        saint.forget();
        Check.due("restore() of 0 MILES", saint.restore(), 0);
        Check.due("all is SEEN again", saint.digest(), full);
        Check.due("and it is full", saint.see(0, 1, 0), GloveSaint.FULL);
        saint.forget();
        saint.image();
        saint.see(0, 1, 0);
        saint.restore();
        Check.due("nothing is SEEN again", saint.count(10), 0);
        saint.carry(0, 5);
        Check.due("MILES go on", saint.count(6), 5);
        Check.due("restore()", saint.restore(), 0);
        GloveSaint paired = new GloveSaint();
        Lead.allPaired(paired);
        Check.due("restore()", paired.restore(), 0);
        Check.dueOfEach(paired, 4, 1, 0, 3, 2, NONE, NONE);
        Check.due("alone as it was", paired.carry(4, 0), 5);
        Check.due("PAIRED as it was", paired.carry(3, 0), STATE);
    }

    private static void restoreOfNone() {
        Check.of(25, "STATE: none was kept");
        Check.refused("restore()", Lead::nothing, GloveSaint::restore, STATE);
        Check.refused("restore()", Lead::letters, GloveSaint::restore, STATE);
        Check.refused("restore()", Lead::two, GloveSaint::restore, STATE);
    }

    private static void restoreOfAnotherDrawer() {
        Check.of(25, "STATE: none was kept, or there is another DRAWER since");
        for (String text : new String[] {"s000,s101", Lead.SEVEN}) {
            Check.refused("restore() behind " + text, saint -> {
                Lead.seven(saint);
                saint.blank();
                Check.write(saint, text);
                saint.drawer();
            }, GloveSaint::restore, STATE);
        }
        GloveSaint saint = new GloveSaint();
        Lead.seven(saint);
        Check.due("a page that is none", saint.drawer(), STATE);
        Check.due("is no other DRAWER", saint.restore(), 0);
        saint.blank();
        Check.write(saint, "s002,s101");
        saint.drawer();
        saint.carry(0, 0);
        Check.due("image() of the other one", saint.image(), 2);
        Check.due("restore() of the other one", saint.restore(), 2);
        Check.due("count(0)", saint.count(0), 2);
    }

    private static void restoreLeavesTheRest() {
        Check.of(25, "It goes on from the IMAGE");
        GloveSaint saint = new GloveSaint();
        Lead.seven(saint);
        saint.letter('x');
        saint.restore();
        Check.due("letters of THE PAGE", saint.count(11), 3);
        Check.due("how often a DRAWER was read", saint.count(12), 1);
        saint.blank();
        saint.restore();
        Check.due("letters of THE PAGE", saint.count(11), 0);
    }

    private static void countOutside() {
        Check.of(26, "12 how often a DRAWER was read. OUTSIDE");
        for (int wrong : new int[] {-1, 13, 14, Integer.MAX_VALUE, Integer.MIN_VALUE}) {
            Check.refused("count(" + wrong + ")", Lead::nothing, saint -> saint.count(wrong), OUTSIDE);
            Check.refused("count(" + wrong + ")", Lead::seven, saint -> saint.count(wrong), OUTSIDE);
        }
        Check.due("count(0) of none", new GloveSaint().count(0), 0);
        Check.due("count(12) of none", new GloveSaint().count(12), 0);
    }

    private static void dueCounts(GloveSaint saint, int... due) {
        for (int what = 0; what < due.length; what++) {
            Check.due("count(" + what + ")", saint.count(what), due[what]);
        }
    }

    private static void countsAtTheirEnds() {
        Check.of(26, "3 two that MAY be PAIRED (each two once; PAIRED ones, too), "
            + "4 left HANDS that are not PAIRED, 5 right ones");
        dueCounts(Check.drawer("s000,s000"), 2, 0, 0, 0, 2, 0);
        dueCounts(Check.drawer("k100,k100,k100,k100,k100,k100,k100"), 7, 0, 0, 21, 0, 7);
        GloveSaint saint = new GloveSaint();
        Lead.allPaired(saint);
        dueCounts(saint, 6, 3, 34, 7, 0, 0, 0, 3, 0, 0, 0, 0, 1);
        saint.part(5);
        dueCounts(saint, 6, 2, 34, 7, 1, 1, 0, 3, 1, 0, 0, 0, 1);
        Check.of(26, "1 PAIRS, 2 their LIKENESS together");
        GloveSaint like = Check.drawer("k000,k000,k100,k100,k000,k000,k000");
        like.bring(0, 1);
        like.bring(2, 3);
        like.bring(4, 5);
        dueCounts(like, 7, 3, 54, 21, 1, 0);
        GloveSaint unlike = Check.drawer("s000,s190,g000,g190,k000,k090");
        unlike.bring(0, 1);
        unlike.bring(2, 3);
        unlike.bring(4, 5);
        dueCounts(unlike, 6, 3, 0, 3, 0, 0);
    }

    private static void countsGoOn() {
        Check.of(26, "7 how often two were BROUGHT together, 8 how often any PARTED (by part()), "
            + "9 how often it was MAY, 10 what is SEEN, 11 letters of THE PAGE, 12 how often a DRAWER was read");
        GloveSaint saint = new GloveSaint();
        for (int time = 1; time <= 5; time++) {
            Check.write(saint, "k000,k000");
            saint.drawer();
            Check.due("count(12)", saint.count(12), time);
            Check.due("a refused drawer()", saint.drawer(), STATE);
            Check.due("count(12)", saint.count(12), time);
        }
        for (int time = 1; time <= 30; time++) {
            saint.bring(0, 1);
            saint.bring(0, 1);
            Check.due("count(7)", saint.count(7), 2 * time - 1);
            saint.part(1);
            saint.part(1);
            Check.due("count(8)", saint.count(8), time);
            saint.bring(0, 1);
            saint.may();
            Check.due("count(9)", saint.count(9), time);
            Check.due("count(8)", saint.count(8), time);
        }
    }

    private static long digest(GloveSaint saint, String page) {
        long h = 1129L;
        for (int one = 0; one < saint.count(0); one++) {
            for (int what = 0; what <= 10; what++) {
                h = 31L * h + saint.single(one, what);
            }
            for (int other = 0; other < saint.count(0); other++) {
                h = other == one ? h : 31L * h + saint.likeness(one, other);
            }
        }
        if (saint.count(0) > 0) {
            for (int what : new int[] {0, 1, 10, 11, 12, 13, 14, 15, 16}) {
                h = 31L * h + saint.most(what);
            }
            h = 31L * (31L * h + saint.best(4, 0)) + saint.best(4, 1);
            h = 31L * (31L * h + saint.stable(0)) + saint.stable(1);
            for (int station = 0; station <= 5; station++) {
                h = 31L * h + saint.round(station);
            }
            h = 31L * (31L * h + saint.odds(0)) + saint.odds(1);
        }
        for (char letter : page.toCharArray()) {
            h = 31L * h + letter;
        }
        for (int what = 0; what <= 12; what++) {
            h = 31L * h + saint.count(what);
        }
        return h;
    }

    private static void digestOfDrawers() {
        Check.of(27, "with a DRAWER what most() tells for 0, 1 and 10 to 16, what best() tells of 4 for 0 and 1");
        GloveSaint none = new GloveSaint();
        Check.due("digest() of none", none.digest(), digest(none, ""));
        for (int many = 2; many <= 7; many++) {
            GloveSaint saint = Check.drawer(Lead.SEVEN.substring(0, many * 5 - 1));
            Check.due("digest() of " + many, saint.digest(), digest(saint, ""));
        }
        GloveSaint seven = new GloveSaint();
        Lead.seven(seven);
        Check.due("digest() of seven", seven.digest(), digest(seven, "g1"));
        GloveSaint paired = new GloveSaint();
        Lead.allPaired(paired);
        Check.due("digest() of all PAIRED", paired.digest(), digest(paired, ""));
        GloveSaint seen = new GloveSaint();
        Lead.allSeen(seen);
        Check.due("digest() of all SEEN", seen.digest(), digest(seen, ""));
        // Four MILES bring these two together, five those.
        GloveSaint near = Check.drawer("s000,s104");
        Check.due("digest() of 4 MILES", near.digest(), digest(near, ""));
        GloveSaint far = Check.drawer("s000,s105");
        Check.due("digest() of 5 MILES", far.digest(), digest(far, ""));
    }

    private static void digestOfLetters() {
        Check.of(27, "31 times h, and it (as longs, wrapping)");
        for (int many : new int[] {1, 2, 35, 36}) {
            GloveSaint saint = new GloveSaint();
            String page = "~".repeat(many - 1) + (char) 1;
            Check.write(saint, page);
            Check.due("digest() of " + many + " letters", saint.digest(), digest(saint, page));
            Check.due("digest() again", saint.digest(), digest(saint, page));
        }
    }

    private static void refusalsAreNumbers() {
        Check.of(0, "public static final int NONE = -1, UNKNOWN = -101, OUTSIDE = -102, STATE = -103, FULL = -104");
        Check.due("NONE", GloveSaint.NONE, -1);
        Check.due("UNKNOWN", GloveSaint.UNKNOWN, -101);
        Check.due("OUTSIDE", GloveSaint.OUTSIDE, -102);
        Check.due("STATE", GloveSaint.STATE, -103);
        Check.due("FULL", GloveSaint.FULL, -104);
        Check.of(0, "Refusals, of several the first as told by each call: UNKNOWN (a number names nothing), "
            + "OUTSIDE (it is not as told), STATE (as told), FULL; they change nothing");
        Check.refused("OUTSIDE, FULL: letter(0)", Lead::fullPage, saint -> saint.letter(0), -102);
        Check.refused("UNKNOWN, OUTSIDE: single(7, 11)", Lead::seven, saint -> saint.single(7, 11), -101);
        Check.refused("UNKNOWN, OUTSIDE: as(7, 5)", Lead::seven, saint -> saint.as(7, 5), -101);
        Check.refused("UNKNOWN, STATE: carry(0, 6)", Lead::seven, saint -> saint.carry(0, 6), -101);
        Check.refused("UNKNOWN, STATE: bring(0, 0)", Lead::seven, saint -> saint.bring(0, 0), -101);
        Check.refused("UNKNOWN, OUTSIDE: shrink(7, 10)", Lead::seven, saint -> saint.shrink(7, 10), -101);
        Check.refused("OUTSIDE, STATE: shrink(0, 10)", Lead::seven, saint -> saint.shrink(0, 10), -102);
        Check.refused("OUTSIDE, STATE: most(2)", Lead::nothing, saint -> saint.most(2), -102);
        Check.refused("OUTSIDE, STATE: best(31, 0)", Lead::nothing, saint -> saint.best(31, 0), -102);
        Check.refused("OUTSIDE, STATE: stable(2)", Lead::nothing, saint -> saint.stable(2), -102);
        Check.refused("OUTSIDE, STATE: odds(2)", Lead::nothing, saint -> saint.odds(2), -102);
        Check.refused("UNKNOWN, OUTSIDE, FULL: see(0, 0, 19)", Lead::allSeen, saint -> saint.see(0, 0, 19), -101);
        Check.refused("OUTSIDE, FULL: see(0, 1, 19)", Lead::allSeen, saint -> saint.see(0, 1, 19), -102);
        Check.refused("OUTSIDE, STATE: winters(0, 0, 0)", Lead::nothing, saint -> saint.winters(0, 0, 0), -102);
    }

    /** The last call that is promised answers as the first. */
    private static void fiveHundredAndTwelveCalls() {
        Check.of(0, "An object is used for at most 512 calls after it has been made");
        GloveSaint carried = new GloveSaint();
        Check.write(carried, "s000,s105");
        carried.drawer();
        for (int call = 11; call <= 511; call++) {
            carried.carry(0, call % 2 == 1 ? 5 : 0);
        }
        Check.due("call 512: MILES of 501 times 5", carried.count(6), 2505);
        GloveSaint read = new GloveSaint();
        for (int time = 1; time <= 51; time++) {
            Check.write(read, "s000,s105");
            read.drawer();
        }
        Check.due("call 511: blank()", read.blank(), 0);
        Check.due("call 512: how often a DRAWER was read", read.count(12), 51);
        GloveSaint may = new GloveSaint();
        Check.write(may, "k000,k000");
        may.drawer();
        for (int call = 11; call <= 511; call++) {
            may.may();
        }
        Check.due("call 512: how often it was MAY", may.count(9), 501);
        GloveSaint parted = new GloveSaint();
        Check.write(parted, "k000,k000");
        parted.drawer();
        for (int call = 11; call <= 510; call += 2) {
            parted.bring(0, 1);
            parted.part(0);
        }
        Check.due("call 511: BROUGHT", parted.count(7), 250);
        Check.due("call 512: PARTED", parted.count(8), 250);
    }
}
