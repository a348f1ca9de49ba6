/** Boundary cases of promises 1 to 5, and of what the terms say of a DRAWER's text. */
public final class EdgesPageTest {
    private static final int NONE = GloveSaint.NONE;
    private static final int UNKNOWN = GloveSaint.UNKNOWN;
    private static final int OUTSIDE = GloveSaint.OUTSIDE;
    private static final int STATE = GloveSaint.STATE;
    private static final int FULL = GloveSaint.FULL;
    private static final int[] NO_CODES =
        {0, 127, 128, 255, 371, -1, -115, Integer.MAX_VALUE, Integer.MIN_VALUE, 65536 + 's'};
    private static final String LONGEST = "s000,g195,k050,r145,m093,s112,k024";

    public static void main(String[] args) {
        noDrawerAtFirst();
        nonePairedThen();
        codes();
        fullPage();
        behindThePage();
        blanks();
        twoToSeven();
        commasBetween();
        letterByLetter();
        digits();
        faultIsTheFirst();
        faultOfNone();
        drawerIsNone();
        pageIsEmptyThen();
        anotherIsGone();
        Check.end("EdgesPageTest");
    }

    private static void noDrawerAtFirst() {
        Check.of(1, "No DRAWER");
        for (int one = -1; one <= 7; one++) {
            int single = one;
            Check.refused("single()", Lead::nothing, saint -> saint.single(single, 0), UNKNOWN);
            Check.refused("part()", Lead::nothing, saint -> saint.part(single), UNKNOWN);
            Check.refused("happy()", Lead::nothing, saint -> saint.happy(single), UNKNOWN);
            Check.refused("carry()", Lead::nothing, saint -> saint.carry(single, 0), UNKNOWN);
            Check.refused("bring()", Lead::nothing, saint -> saint.bring(single, 1), UNKNOWN);
        }
        GloveSaint saint = new GloveSaint();
        for (int what = 0; what <= 12; what++) {
            Check.due("count(" + what + ")", saint.count(what), 0);
        }
        Check.due("blank()", saint.blank(), 0);
        Check.due("fault()", saint.fault(), 0);
        Check.due("forget()", saint.forget(), 0);
        long thirteen = 31L * 31L * 31L * 31L;
        thirteen = thirteen * thirteen * thirteen * 31L;
        Check.due("digest()", saint.digest(), 1129L * thirteen);
    }

    private static void nonePairedThen() {
        Check.of(0, "At first there is none; then none are PAIRED");
        GloveSaint saint = new GloveSaint();
        Check.due("count(0)", saint.count(0), 0);
        Check.due("may()", saint.may(), STATE);
        for (int round = 0; round < 2; round++) {
            Check.write(saint, "k000,k000,k000,k000");
            Check.due("drawer()", saint.drawer(), 4);
            Check.dueOfEach(saint, 4, NONE, NONE, NONE, NONE);
            Check.due("count(1)", saint.count(1), 0);
            saint.bring(0, 3);
            saint.bring(2, 1);
            Check.due("count(1) behind bring()", saint.count(1), 2);
        }
    }

    private static void codes() {
        Check.of(2, "OUTSIDE: code (1 to 126)");
        for (int code = 1; code <= 126; code++) {
            Check.due("letter(" + code + ")", new GloveSaint().letter(code), 1);
        }
        for (int wrong : NO_CODES) {
            String call = "letter(" + wrong + ")";
            Check.refused(call, Lead::nothing, saint -> saint.letter(wrong), OUTSIDE);
            Check.refused(call, Lead::letters, saint -> saint.letter(wrong), OUTSIDE);
            Check.refused(call, Lead::seven, saint -> saint.letter(wrong), OUTSIDE);
            Check.refused(call + ", ahead of FULL", Lead::fullPage, saint -> saint.letter(wrong), OUTSIDE);
        }
    }

    private static void fullPage() {
        Check.of(2, "FULL: above 36");
        GloveSaint saint = new GloveSaint();
        for (int many = 1; many <= 36; many++) {
            Check.due("letter number " + many, saint.letter(126), many);
        }
        for (int many = 37; many <= 40; many++) {
            Check.due("letter number " + many, saint.letter(1), FULL);
        }
        Check.due("count(11)", saint.count(11), 36);
        for (int code = 1; code <= 126; code++) {
            int right = code;
            Check.refused("letter(" + code + ")", Lead::fullPage, full -> full.letter(right), FULL);
        }
        saint.blank();
        Check.due("letter(1) behind blank()", saint.letter(1), 1);
    }

    private static void behindThePage() {
        Check.of(2, "A letter comes behind THE PAGE, by its code: how many THE PAGE has");
        GloveSaint saint = new GloveSaint();
        long hash = 1129L;
        for (int many = 1; many <= 36; many++) {
            int code = 1 + many * 37 % 126;
            Check.due("letter(" + code + ")", saint.letter(code), many);
            hash = 31L * hash + code;
            long whole = hash;
            for (int what = 0; what <= 12; what++) {
                whole = 31L * whole + (what == 11 ? many : 0);
            }
            Check.due("digest() of " + many, saint.digest(), whole);
        }
    }

    private static void blanks() {
        Check.of(3, "THE PAGE is empty: how many letters it had");
        for (int many : new int[] {0, 1, 34, 35, 36}) {
            GloveSaint saint = new GloveSaint();
            Check.write(saint, "s".repeat(many));
            Check.due("blank() of " + many, saint.blank(), many);
            Check.due("count(11)", saint.count(11), 0);
            Check.due("digest()", saint.digest(), new GloveSaint().digest());
            Check.due("blank() again", saint.blank(), 0);
            Check.due("letter() then", saint.letter('g'), 1);
            Check.due("fault() then", saint.fault(), 1);
        }
        GloveSaint tooMany = new GloveSaint();
        Check.write(tooMany, "s".repeat(40));
        Check.due("blank() of 36, as 4 were refused", tooMany.blank(), 36);
        GloveSaint saint = Check.drawer("s000,s101");
        Check.write(saint, "s");
        saint.blank();
        Check.due("blank() leaves the DRAWER", saint.count(0), 2);
    }

    private static int read(String text) {
        GloveSaint saint = new GloveSaint();
        Check.write(saint, text);
        return saint.drawer();
    }

    private static void twoToSeven() {
        Check.of(0, "two to seven SINGLES (numbered from 0)");
        String text = "k000";
        Check.due("drawer() of none", read(""), STATE);
        Check.due("drawer() of 1", read(text), STATE);
        for (int many = 2; many <= 7; many++) {
            text += ",k000";
            Check.due("drawer() of " + many, read(text), many);
            GloveSaint saint = Check.drawer(text);
            Check.due("count(0)", saint.count(0), many);
            Check.due("the first", saint.single(0, 0), 2);
            Check.due("the last", saint.single(many - 1, 0), 2);
            Check.due("one more", saint.single(many, 0), UNKNOWN);
            Check.due("one less", saint.single(-1, 0), UNKNOWN);
        }
        GloveSaint eight = new GloveSaint();
        Check.due("the page takes no eighth", Check.write(eight, text + ",k000"), FULL);
        Check.due("fault()", eight.fault(), 34);
        Check.due("drawer()", eight.drawer(), STATE);
    }

    private static void commasBetween() {
        Check.of(0, "with \",\" between");
        for (String wrong : new String[] {",s000,s000", "s000,s000,", "s000,,s000", "s000s000", "s000+s000",
            "s000-s000", "s000.s000", "s000;s000", "s000 s000", "s000, s000", "s000,s000,,", ",", ",,"}) {
            Check.due("drawer() of " + wrong, read(wrong), STATE);
        }
        Check.due("drawer() with it", read("s000,s000"), 2);
    }

    /** At each place each code: whether it may stand there is told by a text of those that may. */
    private static void letterByLetter() {
        Check.of(0, "each a letter, the KIND, and three digits");
        String[] may = {"sgkrm", "01", "0123456789", "012345", ","};
        for (int place = 0; place < LONGEST.length(); place++) {
            for (int code = 1; code <= 126; code++) {
                boolean right = may[place % 5].indexOf(code) >= 0;
                GloveSaint saint = new GloveSaint();
                Check.write(saint, LONGEST.substring(0, place));
                saint.letter(code);
                Check.due("fault() of " + code + " at " + place, saint.fault(), right ? place + 1 : place);
                Check.write(saint, LONGEST.substring(place + 1));
                Check.due("drawer() with " + code + " at " + place, saint.drawer(), right ? 7 : STATE);
            }
        }
    }

    private static void digits() {
        Check.of(0, "the HAND (0 left, 1 right), the SIZE (0 to 9), the STATION (0 to 5)");
        GloveSaint saint = Check.drawer("s000,s195");
        Check.dueOfEach(saint, 1, 0, 1);
        Check.dueOfEach(saint, 2, 0, 9);
        Check.dueOfEach(saint, 3, 0, 5);
        for (int size = 0; size <= 9; size++) {
            GloveSaint sized = Check.drawer("s000,k0" + size + "0");
            Check.due("size " + size, sized.single(1, 2), size);
        }
        for (int station = 0; station <= 5; station++) {
            GloveSaint stationed = Check.drawer("s000,k00" + station);
            Check.due("station " + station, stationed.single(1, 3), station);
        }
        for (String wrong : new String[] {"s/00", "s200", "s0/0", "s0:0", "s00/", "s006", "s00", "s0000"}) {
            Check.due("drawer() of s000 and " + wrong, read("s000," + wrong), STATE);
            Check.due("drawer() of " + wrong + " and s000", read(wrong + ",s000"), STATE);
        }
    }

    private static void faultIsTheFirst() {
        Check.of(4, "The place (from 0) of the first letter of THE PAGE that no DRAWER has there, "
            + "behind those ahead of it");
        for (int place = 0; place < 36; place++) {
            GloveSaint saint = new GloveSaint();
            Check.write(saint, LONGEST.substring(0, Math.min(34, place)));
            int due = Math.min(34, place);
            while (saint.count(11) < 36) {
                saint.letter('x');
                Check.due("fault() of x from " + place, saint.fault(), due);
            }
        }
        GloveSaint saint = new GloveSaint();
        Check.write(saint, LONGEST);
        saint.letter(',');
        Check.due("fault() of a comma behind seven", saint.fault(), 34);
        saint.letter('s');
        Check.due("fault() of an eighth", saint.fault(), 34);
    }

    private static void faultOfNone() {
        Check.of(4, "how many letters it has, if there is none");
        GloveSaint saint = new GloveSaint();
        Check.due("fault() of an empty page", saint.fault(), 0);
        for (int place = 0; place < LONGEST.length(); place++) {
            saint.letter(LONGEST.charAt(place));
            Check.due("fault() of " + (place + 1), saint.fault(), place + 1);
        }
        saint.drawer();
        Check.due("fault() behind drawer()", saint.fault(), 0);
    }

    private static void drawerIsNone() {
        Check.of(5, "STATE: it is none");
        String all = LONGEST + ",k";
        for (int many = 0; many <= 36; many++) {
            String text = all.substring(0, many);
            boolean right = many >= 9 && many <= 34 && many % 5 == 4;
            Check.due("drawer() of " + text, read(text), right ? (many + 1) / 5 : STATE);
            if (!right) {
                Check.refused("drawer() of " + text, saint -> Check.write(saint, text), GloveSaint::drawer, STATE);
                Check.refused("drawer() of " + text + " behind another", saint -> {
                    Lead.seven(saint);
                    saint.blank();
                    Check.write(saint, text);
                }, GloveSaint::drawer, STATE);
            }
        }
        Check.refused("drawer()", Lead::fullPage, GloveSaint::drawer, STATE);
        Check.refused("drawer()", Lead::allSeen, GloveSaint::drawer, STATE);
        GloveSaint mended = new GloveSaint();
        Check.write(mended, "s000,k00");
        Check.due("drawer() too early", mended.drawer(), STATE);
        Check.due("the last letter", mended.letter('5'), 9);
        Check.due("drawer() then", mended.drawer(), 2);
    }

    private static void pageIsEmptyThen() {
        Check.of(5, "THE PAGE is empty then");
        for (String text : new String[] {"s000,k000", LONGEST}) {
            GloveSaint saint = Check.drawer(text);
            Check.due("count(11)", saint.count(11), 0);
            Check.due("drawer() again", saint.drawer(), STATE);
            Check.due("blank()", saint.blank(), 0);
            Check.due("letter()", saint.letter('s'), 1);
        }
    }

    private static void anotherIsGone() {
        Check.of(5, "another one is gone, with all that was");
        GloveSaint saint = new GloveSaint();
        Lead.seven(saint);
        saint.blank();
        Check.write(saint, "s000,s101");
        Check.due("drawer() of two behind seven", saint.drawer(), 2);
        Check.due("single(2, 0)", saint.single(2, 0), UNKNOWN);
        int[] counts = {2, 0, 0, 1, 1, 1, 0, 0, 0, 0, 0, 0, 2};
        for (int what = 0; what < counts.length; what++) {
            Check.due("count(" + what + ")", saint.count(what), counts[what]);
        }
        Check.dueOfEach(saint, 9, 1023, 1023);
        Check.due("restore()", saint.restore(), STATE);
        Check.due("round(0)", saint.round(0), 1);
        Check.dueRow("most()", saint::most, 1, 0);
        GloveSaint full = new GloveSaint();
        Lead.allSeen(full);
        Check.write(full, LONGEST);
        Check.due("drawer() of seven behind three", full.drawer(), 7);
        Check.due("single(6, 2)", full.single(6, 2), 2);
        Check.due("see() where all was SEEN", full.see(0, 1, 0), 1);
    }
}
