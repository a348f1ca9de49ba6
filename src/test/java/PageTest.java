/** Promises 1 to 5: a new object, letter, blank, fault, drawer. */
public final class PageTest {
    public static void main(String[] args) {
        newObject();
        letters();
        blanks();
        faults();
        drawers();
        anotherDrawer();
        Check.end("PageTest");
    }

    private static void newObject() {
        GloveSaint saint = new GloveSaint();
        for (int what = 0; what <= 12; what++) {
            Check.due("new: count(" + what + ")", saint.count(what), 0);
        }
        Check.due("new: single(0, 0)", saint.single(0, 0), GloveSaint.UNKNOWN);
        Check.due("new: most(0)", saint.most(0), GloveSaint.STATE);
        Check.due("new: fault()", saint.fault(), 0);
        Check.due("new: drawer()", saint.drawer(), GloveSaint.STATE);
    }

    private static void letters() {
        GloveSaint saint = new GloveSaint();
        for (int code : new int[] {0, -1, 127, Integer.MAX_VALUE, Integer.MIN_VALUE}) {
            Check.due("letter(" + code + ")", saint.letter(code), GloveSaint.OUTSIDE);
        }
        Check.due("letter(1)", saint.letter(1), 1);
        Check.due("letter(126)", saint.letter(126), 2);
        for (int many = 3; many <= 36; many++) {
            Check.due("letter number " + many, saint.letter('s'), many);
        }
        Check.due("letter number 37", saint.letter('s'), GloveSaint.FULL);
        Check.due("OUTSIDE is told ahead of FULL", saint.letter(127), GloveSaint.OUTSIDE);
        Check.due("count(11)", saint.count(11), 36);
    }

    private static void blanks() {
        GloveSaint saint = new GloveSaint();
        Check.due("blank() of none", saint.blank(), 0);
        Check.write(saint, "s000");
        Check.due("blank()", saint.blank(), 4);
        Check.due("blank() again", saint.blank(), 0);
        Check.due("letter behind blank()", saint.letter('g'), 1);
    }

    private static void dueFault(String text, int place) {
        GloveSaint saint = new GloveSaint();
        Check.write(saint, text);
        Check.due("fault() of " + text, saint.fault(), place);
        Check.due("fault() of " + text + " again", saint.fault(), place);
    }

    private static void faults() {
        for (char kind : "sgkrm".toCharArray()) {
            dueFault(String.valueOf(kind), 1);
        }
        dueFault("a", 0);
        dueFault("S", 0);
        dueFault(",", 0);
        dueFault("s2", 1);
        dueFault("s/", 1);
        dueFault("s1", 2);
        dueFault("s1:", 2);
        dueFault("s19", 3);
        dueFault("s196", 3);
        dueFault("s195", 4);
        dueFault("s195s", 4);
        dueFault("s195,", 5);
        dueFault("s195,,", 5);
        dueFault("s195,k000", 9);
        dueFault("x195,x", 0);
        String seven = "s000,s000,s000,s000,s000,s000,s000";
        dueFault(seven, 34);
        dueFault(seven + ",", 34);
        dueFault(seven + "s", 34);
        dueFault(seven + ",s", 34);
    }

    private static void dueDrawer(String text, int singles) {
        GloveSaint saint = new GloveSaint();
        int letters = Check.write(saint, text);
        Check.due("drawer() of " + text, saint.drawer(), singles);
        boolean read = singles > 0;
        Check.due("letters behind drawer() of " + text, saint.count(11), read ? 0 : letters);
        Check.due("drawers behind drawer() of " + text, saint.count(12), read ? 1 : 0);
        Check.due("singles behind drawer() of " + text, saint.count(0), read ? singles : 0);
    }

    private static void drawers() {
        dueDrawer("", GloveSaint.STATE);
        dueDrawer("s000", GloveSaint.STATE);
        dueDrawer("s000,", GloveSaint.STATE);
        dueDrawer("s000,s00", GloveSaint.STATE);
        dueDrawer("s000,s000,", GloveSaint.STATE);
        dueDrawer("s000,s006", GloveSaint.STATE);
        dueDrawer("s000,s000", 2);
        dueDrawer("s000,g195,k123", 3);
        dueDrawer("s000,g195,k123,r000", 4);
        dueDrawer("s000,g195,k123,r000,m000", 5);
        dueDrawer("s000,g195,k123,r000,m000,m111", 6);
        dueDrawer("s000,g195,k123,r000,m000,m111,s000", 7);
        dueDrawer("s000,g195,k123,r000,m000,m111,s000,", GloveSaint.STATE);
    }

    private static void anotherDrawer() {
        GloveSaint saint = Check.drawer("s000,s101,k000");
        saint.carry(0, 1);
        saint.bring(0, 1);
        saint.part(0);
        saint.bring(0, 1);
        saint.may();
        saint.see(0, 1, 3);
        saint.image();
        Check.write(saint, "k01x");
        Check.due("a page that is none", saint.drawer(), GloveSaint.STATE);
        Check.due("the drawer stays", saint.count(0), 3);
        Check.due("its miles stay", saint.count(6), 1);
        Check.due("its image stays", saint.restore(), 1);
        saint.blank();
        Check.write(saint, "k012,k024");
        Check.due("another drawer", saint.drawer(), 2);
        int[] due = {2, 0, 0, 1, 2, 0, 0, 0, 0, 0, 0, 0, 2};
        for (int what = 0; what < due.length; what++) {
            Check.due("another drawer: count(" + what + ")", saint.count(what), due[what]);
        }
        Check.due("another drawer: restore()", saint.restore(), GloveSaint.STATE);
    }
}
