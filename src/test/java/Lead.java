/** States that an object is led to, so that a refused call has something to change. */
final class Lead {
    static final String SEVEN = "k000,k010,s033,s143,g024,m155,r031";

    private Lead() {
    }

    static void nothing(GloveSaint saint) {
    }

    static void letters(GloveSaint saint) {
        Check.write(saint, "s00");
    }

    static void fullPage(GloveSaint saint) {
        Check.write(saint, Lead.SEVEN + ",k");
    }

    private static void read(GloveSaint saint, String text) {
        Check.write(saint, text);
        saint.drawer();
    }

    static void two(GloveSaint saint) {
        read(saint, "s000,s101");
    }

    static void three(GloveSaint saint) {
        read(saint, "s000,s101,k093");
    }

    /** The IMAGE is unlike what is now in all that it keeps: 0 and 1 are PAIRED now, 2 to 6 are not. */
    static void seven(GloveSaint saint) {
        read(saint, SEVEN);
        saint.bring(2, 3);
        saint.see(4, 5, 12);
        saint.image();
        saint.part(2);
        saint.carry(2, 1);
        saint.shrink(5, 7);
        saint.may();
        saint.bring(0, 1);
        saint.see(5, 4, 10);
        saint.see(6, 3, GloveSaint.NONE);
        Check.write(saint, "g1");
    }

    static void allPaired(GloveSaint saint) {
        read(saint, "k000,k000,k011,k021,s005,s195");
        saint.bring(0, 1);
        saint.bring(3, 2);
        saint.image();
        saint.bring(4, 5);
    }

    static void allSeen(GloveSaint saint) {
        read(saint, "s000,s101,k093");
        for (int likeness = 11; likeness <= 18; likeness++) {
            saint.see(0, 1, likeness);
        }
        saint.image();
    }
}
