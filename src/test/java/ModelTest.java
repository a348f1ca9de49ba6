import java.util.Random;

/** All promises at once: runs of calls by chance, each answer compared with the Model's. */
public final class ModelTest {
    private static final int RUNS = 1200;
    /** An object's calls that are promised, and how many are kept for a page and its drawer. */
    private static final int CALLS = 512;
    private static final int CALLS_OF_DRAWER = 40;
    private static final int[] ODD = {-1, -2, 2, 5, 6, 7, 8, 9, 10, 11, 13, 17, 19, 30, 31, 60, 61, 127,
        -101, Integer.MAX_VALUE, Integer.MIN_VALUE};

    private final Random chance;
    private final GloveSaint saint = new GloveSaint();
    private final Model model = new Model();
    private final String run;
    private int calls = 0;

    private ModelTest(int seed) {
        chance = new Random(seed);
        run = "run " + seed + ": ";
    }

    public static void main(String[] args) {
        for (int seed = 0; seed < RUNS; seed++) {
            new ModelTest(seed).go();
        }
        Check.end("ModelTest");
    }

    private void go() {
        if (chance.nextInt(4) > 0) {
            readDrawer();
        }
        for (int turn = 0; turn < CALLS && calls < CALLS - 3; turn++) {
            if (chance.nextInt(120) == 0 && calls < CALLS - CALLS_OF_DRAWER) {
                readDrawer();
            } else {
                ask(chance.nextInt(34));
            }
        }
        due("digest()", saint.digest(), model.digest());
        Check.due(run + "calls that are promised", calls <= CALLS ? 1 : 0, 1);
    }

    private void due(String call, long got, long want) {
        calls++;
        Check.due(run + call, got, want);
    }

    private void readDrawer() {
        String kinds = new String[] {"sgkrm", "k", "gm", "sr", "sssr", "kkg", "m"}[chance.nextInt(7)];
        int sizes = 1 + chance.nextInt(10);
        int stations = 1 + chance.nextInt(6);
        int singles = 2 + chance.nextInt(6);
        due("blank()", saint.blank(), model.blank());
        for (int one = 0; one < singles; one++) {
            if (one > 0) {
                write(',');
            }
            write(kinds.charAt(chance.nextInt(kinds.length())));
            write('0' + chance.nextInt(2));
            write('0' + chance.nextInt(sizes));
            write('0' + chance.nextInt(stations));
        }
        if (chance.nextInt(8) == 0) {
            write(chance.nextInt(128));
        }
        due("fault()", saint.fault(), model.fault());
        due("drawer()", saint.drawer(), model.drawer());
    }

    private void write(int code) {
        due("letter(" + code + ")", saint.letter(code), model.letter(code));
    }

    /** Mostly a number below the limit, now and then one that names nothing. */
    private int number(int limit) {
        return chance.nextInt(25) == 0 ? ODD[chance.nextInt(ODD.length)] : chance.nextInt(limit);
    }

    private int one() {
        return number(Math.max(2, model.count(0)));
    }

    private int rowWhat() {
        return chance.nextInt(3) == 0 ? number(2) : number(8) + 10;
    }

    private void ask(int which) {
        if (which < 12) {
            askMoves(which);
        } else if (which < 22) {
            askOfSingles(which);
        } else {
            askOfAll(which);
        }
    }

    private void askMoves(int which) {
        int a = one();
        int b = one();
        int c = number(6);
        switch (which) {
            case 0, 1 -> due("carry(" + a + ", " + c + ")", saint.carry(a, c), model.carry(a, c));
            case 2, 3, 4, 5 -> bringAny();
            case 6 -> due("bring(" + a + ", " + b + ")", saint.bring(a, b), model.bring(a, b));
            case 7 -> due("part(" + a + ")", saint.part(a), model.part(a));
            case 8 -> {
                int size = number(10);
                due("shrink(" + a + ", " + size + ")", saint.shrink(a, size), model.shrink(a, size));
            }
            case 9 -> due("may()", saint.may(), model.may());
            case 10 -> due("image()", saint.image(), model.image());
            default -> due("restore()", saint.restore(), model.restore());
        }
    }

    /** Two that may be paired, carried to one station: pairs would be too few by chance alone. */
    private void bringAny() {
        int a = one();
        int matches = model.single(a, 5);
        if (matches <= 0) {
            return;
        }
        int b = Integer.numberOfTrailingZeros(matches);
        int at = model.single(b, 3);
        due("carry(" + a + ", " + at + ")", saint.carry(a, at), model.carry(a, at));
        due("bring(" + a + ", " + b + ")", saint.bring(a, b), model.bring(a, b));
    }

    private void askOfSingles(int which) {
        int a = one();
        int b = one();
        int c = number(12);
        switch (which) {
            case 12, 13, 14 -> due("single(" + a + ", " + c + ")", saint.single(a, c), model.single(a, c));
            case 15 -> due("as(" + a + ", " + c + ")", saint.as(a, c), model.as(a, c));
            case 16 -> due("likeness(" + a + ", " + b + ")", saint.likeness(a, b), model.likeness(a, b));
            case 17 -> due("apart(" + a + ", " + b + ")", saint.apart(a, b), model.apart(a, b));
            case 18 -> due("happy(" + a + ")", saint.happy(a), model.happy(a));
            case 19, 20 -> {
                int real = model.likeness(a, b);
                int like = real >= -1 && chance.nextBoolean() ? real : number(20) - 1;
                due("see(" + a + ", " + b + ", " + like + ")", saint.see(a, b, like), model.see(a, b, like));
            }
            default -> {
                if (chance.nextInt(3) == 0) {
                    due("forget()", saint.forget(), model.forget());
                }
            }
        }
    }

    private void askOfAll(int which) {
        int what = rowWhat();
        int small = number(15);
        switch (which) {
            case 22, 23 -> due("most(" + what + ")", saint.most(what), model.most(what));
            case 24, 25 -> {
                int miles = number(31);
                due("best(" + miles + ", " + what + ")", saint.best(miles, what), model.best(miles, what));
            }
            case 26, 27 -> due("stable(" + what + ")", saint.stable(what), model.stable(what));
            case 28 -> due("round(" + small + ")", saint.round(small), model.round(small));
            case 29 -> due("odds(" + small % 3 + ")", saint.odds(small % 3), model.odds(small % 3));
            case 30 -> {
                int times = number(62);
                int seed = chance.nextInt();
                int told = number(3);
                due("winters(" + times + ", " + seed + ", " + told + ")",
                    saint.winters(times, seed, told), model.winters(times, seed, told));
            }
            case 31 -> due("count(" + small + ")", saint.count(small), model.count(small));
            case 32 -> {
                if (chance.nextInt(6) == 0) {
                    due("digest()", saint.digest(), model.digest());
                }
            }
            default -> {
                write(chance.nextInt(128));
                due("fault()", saint.fault(), model.fault());
            }
        }
    }
}
