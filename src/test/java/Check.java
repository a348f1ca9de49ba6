import java.util.function.Consumer;
import java.util.function.IntUnaryOperator;
import java.util.function.ToIntFunction;

/** What the tests share: a due answer, a drawer from its text, a refused call, and the exit code. */
final class Check {
    private static int wrong = 0;
    private static int asked = 0;
    private static int askedOfSentence = 0;
    private static String sentence = "";

    private Check() {
    }

    /** The sentence that is asked about from here on: it must stand in the document (0: its head). */
    static void of(int promise, String words) {
        endSentence();
        sentence = (promise == 0 ? "Terms" : "Promise " + promise) + ", \"" + words + "\": ";
        due("in the document", Doc.says(promise, words) ? 1 : 0, 1);
        askedOfSentence = 0;
    }

    private static void endSentence() {
        if (!sentence.isEmpty()) {
            due("anything asked", askedOfSentence > 0 ? 1 : 0, 1);
        }
        sentence = "";
    }

    static void due(String call, long got, long want) {
        asked++;
        askedOfSentence++;
        if (got != want) {
            wrong++;
            System.out.println(sentence + call + " answered " + got + ", due is " + want);
        }
    }

    static int write(GloveSaint saint, String text) {
        int last = 0;
        for (int place = 0; place < text.length(); place++) {
            last = saint.letter(text.charAt(place));
        }
        return last;
    }

    static GloveSaint drawer(String text) {
        GloveSaint saint = new GloveSaint();
        write(saint, text);
        due("drawer() of " + text, saint.drawer(), (text.length() + 1) / 5);
        return saint;
    }

    /** The answers of row questions 10 to 16. */
    static void dueRow(String call, IntUnaryOperator got, int... want) {
        for (int one = 0; one < 7; one++) {
            int mate = one < want.length ? want[one] : GloveSaint.NONE;
            due(call + " for " + (10 + one), got.applyAsInt(10 + one), mate);
        }
    }

    /** The answers of single(0, what), single(1, what) and so on. */
    static void dueOfEach(GloveSaint saint, int what, int... want) {
        for (int one = 0; one < want.length; one++) {
            due("single(" + one + ", " + what + ")", saint.single(one, what), want[one]);
        }
    }

    /**
     * A refused call, made twice on one of two objects that were led alike: what it answers, and that
     * it has changed nothing, neither what is told now nor what is told from the IMAGE on.
     */
    static void refused(String call, Consumer<GloveSaint> lead, ToIntFunction<GloveSaint> made, int want) {
        GloveSaint saint = new GloveSaint();
        GloveSaint other = new GloveSaint();
        lead.accept(saint);
        lead.accept(other);
        due(call, made.applyAsInt(saint), want);
        due(call + " again", made.applyAsInt(saint), want);
        dueAlike(call, saint, other);
        due("restore() behind " + call, saint.restore(), other.restore());
        dueAlike(call + " and restore()", saint, other);
    }

    private static void dueAlike(String call, GloveSaint saint, GloveSaint other) {
        due("digest() behind " + call, saint.digest(), other.digest());
        due("fault() behind " + call, saint.fault(), other.fault());
        for (int one = 0; one < 7; one++) {
            due("happy(" + one + ") behind " + call, saint.happy(one), other.happy(one));
            due("as(" + one + ", 0) behind " + call, saint.as(one, 0), other.as(one, 0));
            due("best(30) behind " + call, saint.best(30, 10 + one), other.best(30, 10 + one));
        }
        due("winters() behind " + call, saint.winters(60, 5, 1), other.winters(60, 5, 1));
    }

    static void end(String name) {
        endSentence();
        System.out.println(name + ": " + asked + " answers asked, " + wrong + " wrong");
        if (wrong != 0 || asked == 0) {
            System.exit(1);
        }
    }
}
