/** What the tests share: a due answer, a drawer from its text, and the end with its exit code. */
final class Check {
    private static int wrong = 0;
    private static int asked = 0;

    private Check() {
    }

    static void due(String call, long got, long want) {
        asked++;
        if (got != want) {
            wrong++;
            System.out.println(call + " answered " + got + ", due is " + want);
        }
    }

    static int write(GloveSaint saint, String text) {
        int last = 0;
        for (int place = 0; place < text.length(); place++) {
            last = saint.letter(text.charAt(place));
        }
        return last;
    }

    static GloveSaint drawer(String text) {
        GloveSaint saint = new GloveSaint();
        write(saint, text);
        due("drawer() of " + text, saint.drawer(), (text.length() + 1) / 5);
        return saint;
    }

    /** The answers of row questions 10 to 16. */
    static void dueRow(String call, java.util.function.IntUnaryOperator got, int... want) {
        for (int one = 0; one < 7; one++) {
            int mate = one < want.length ? want[one] : GloveSaint.NONE;
            due(call + " for " + (10 + one), got.applyAsInt(10 + one), mate);
        }
    }

    static void end(String name) {
        System.out.println(name + ": " + asked + " answers asked, " + wrong + " wrong");
        if (wrong != 0 || asked == 0) {
            System.exit(1);
        }
    }
}
