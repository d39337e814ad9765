import java.util.ArrayDeque;
import java.util.Map;
import java.util.Random;
import java.util.TreeMap;

/**
 * Random runs of calls, each asked of MarksRegister and of Oracle. The worlds are small (few
 * persons, goods, letters). In wild ones the days leap, and most marks are soon struck, unused or
 * lapsed; in calm ones they stand, and so come into one another's way.
 */
public final class OracleTest {
    private static final int RUNS = 3000;
    // A step makes a dozen calls at most, and behind 512 of them the document promises nothing.
    private static final int CALLS = 500;
    private static final int[] STEPS = {0, 0, 0, 0, 1, 2, 30, 45, 90, 91, 181, 182, 183, 365, 1000, 1825, 1826, 3285};
    private static final int[] CALM_STEPS = {0, 1, 1, 2, 5, 10, 30, 60, 89, 90, 91, 182, 183, 365};
    private static final int[] SPANS = {0, 0, 0, 1, 89, 90, 91, 180, 182, 183, 365, 1825, 1826, 3650, 3830, 3831};
    private static final int[] ODD = {-2, -1, 4, 5, 9, 16, 20, 26, 27, 39, 40, 65, 66, 99, 100, 119, 120, 359, 360,
        999, 1000, 1001, 32767, 32768, 60000, 60001, Integer.MIN_VALUE, Integer.MAX_VALUE};

    // Papers of calm worlds: many GOODS, ENTERS and USES, few that end a right.
    private static final int[] CALM_KINDS = {0, 0, 0, 0, 0, 0, 0, 1, 1, 1, 1, 1, 1, 1, 6, 6, 6, 6, 6, 6, 6, 3, 3, 2, 7, 7, 8, 8, 5, 4};
    // Refusals tell little: so many answers of these calls must be others, or the worlds are too poor.
    private static final Map<String, Integer> TOLD_AT_LEAST = Map.of("clash", 2000, "first", 1000, "oppose", 1000, "watch", 1000);

    private final Random random;
    private final MarksRegister real = new MarksRegister();
    private final Oracle oracle = new Oracle();
    private final ArrayDeque<String> log = new ArrayDeque<>();
    private final Map<String, Integer> told;
    private final boolean busy;
    private final boolean calm;
    private final int goods;
    private final int countries;
    private final int persons;
    private final int letters;
    private final int longest;
    private int day;

    private OracleTest(long seed, Map<String, Integer> told) {
        this.told = told;
        random = new Random(seed);
        busy = random.nextInt(4) > 0;
        calm = random.nextInt(3) > 0;
        goods = random.nextInt(calm ? 20 : 5) == 0 ? 26 : 1 + random.nextInt(5);
        countries = 1 + random.nextInt(calm ? 2 : 3);
        persons = 2 + random.nextInt(calm ? 8 : 4);
        letters = calm ? 1 + random.nextInt(3) : 2 + random.nextInt(4);
        longest = 1 + random.nextInt(calm ? 3 : 5);
        day = pick(new int[] {0, 0, 5, 1000, 50000});
    }

    private int pick(int[] from) {
        return from[random.nextInt(from.length)];
    }

    /** Mostly an ordinary value, now and then an odd one. */
    private int some(int bound) {
        return random.nextInt(60) == 0 ? pick(ODD) : random.nextInt(Math.max(1, bound));
    }

    private int someMark() {
        return some(oracle.marks.size());
    }

    /** A day near the days on which something happened or ends. */
    private int someDay() {
        int papers = oracle.papers.size();
        if (papers == 0 || random.nextInt(calm ? 2 : 6) == 0) {
            return random.nextInt(40) == 0 ? pick(ODD) : day;
        }
        int from = random.nextInt(3) == 0 ? day : oracle.papers.get(random.nextInt(papers)).day();
        return from + pick(SPANS) * (random.nextInt(5) == 0 ? -1 : 1);
    }

    private boolean agree(String call, long got, long want) {
        log.add(call + " = " + got);
        if (want != Oracle.NONE) {
            told.merge(call.split(" ")[0], 1, Integer::sum);
        }
        if (got == want) {
            return true;
        }
        log.forEach(System.out::println);
        System.out.println("  due is " + want);
        return false;
    }

    private static long bit(boolean b) {
        return b ? 1 : 0;
    }

    private boolean tellWords() {
        int l = some(letters);
        switch (random.nextInt(6)) {
            case 0: {
                int p = random.nextInt(3) == 0 ? -1 : some(28);
                return agree("row " + l + " " + p, bit(real.row(l, p)), bit(oracle.row(l, p)));
            }
            case 1: {
                int p = random.nextInt(2) == 0 ? some(27) : some(letters);
                int s = random.nextInt(3) == 0 ? some(40) : some(3);
                return agree("sound " + l + " " + p + " " + s, bit(real.sound(l, p, s)), bit(oracle.sound(l, p, s)));
            }
            case 2: case 3: {
                int a = random.nextInt(3) == 0 ? some(3) : 40 + some(letters);
                int b = random.nextInt(3) == 0 ? -1 : random.nextInt(3) == 0 ? some(3) : 40 + some(letters);
                int c = random.nextInt(3) == 0 ? some(102) : some(25);
                return agree("cost " + a + " " + b + " " + c, bit(real.cost(a, b, c)), bit(oracle.cost(a, b, c)));
            }
            case 4: {
                int g = some(goods + 1);
                int h = some(goods + 1);
                int v = random.nextInt(3) == 0 ? 0 : 498 + some(5);
                return agree("near " + g + " " + h + " " + v, bit(real.near(g, h, v)), bit(oracle.near(g, h, v)));
            }
            default: {
                int a = random.nextInt(2) == 0 ? 500 : 1 + some(calm ? 700 : 1000);
                int b = random.nextInt(2) == 0 ? 500 : 1 + some(1000);
                return agree("levels " + a + " " + b, bit(real.levels(a, b)), bit(oracle.levels(a, b)));
            }
        }
    }

    private boolean makeMark() {
        int kind = some(5);
        int owner = some(persons);
        if (!agree("mark " + kind + " " + owner, real.mark(kind, owner), oracle.mark(kind, owner))) {
            return false;
        }
        int m = oracle.marks.size() - 1;
        boolean fine = true;
        for (int i = random.nextInt(longest + 1); i > 0 && fine; i--) {
            int l = some(letters);
            fine = agree("letter " + m + " " + l, real.letter(m, l), oracle.letter(m, l));
        }
        for (int i = random.nextInt(4); i > 0 && fine && (kind == 1 || kind == 2); i--) {
            int c = some(3);
            fine = agree("code " + m + " " + c, real.code(m, c), oracle.code(m, c));
        }
        return fine && (random.nextInt(8) == 0 || (tellPaper(0, m) && tellPaper(1, m)));
    }

    private boolean spell() {
        int m = someMark();
        if (random.nextInt(2) == 0) {
            int l = some(letters);
            return agree("letter " + m + " " + l, real.letter(m, l), oracle.letter(m, l));
        }
        int c = some(14);
        return agree("code " + m + " " + c, real.code(m, c), oracle.code(m, c));
    }

    private boolean tellPaper(int kind, int m) {
        int step = random.nextInt(calm ? 8 : 3) > 0 ? 0 : pick(calm ? CALM_STEPS : STEPS);
        int t = random.nextInt(calm ? 200 : 30) == 0 ? someDay() : day + step;
        int x = kind == 0 || kind == 3 || kind == 6 ? some(goods) : kind == 1 ? some(countries)
            : kind == 5 || kind == 8 ? some(persons) : random.nextInt(20) == 0 ? 1 : 0;
        if (kind == 2 && random.nextInt(3) < (calm ? 1 : 2) && oracle.state(m, day, 1) != -1) {
            t = Math.max(day, oracle.state(m, day, 1) + pick(new int[] {-366, -365, 0, 180, 181}));
        }
        boolean fine = agree("paper " + kind + " " + m + " " + x + " " + t,
            real.paper(kind, m, x, t), oracle.paper(kind, m, x, t));
        day = oracle.about(2);
        return fine;
    }

    private boolean ask() {
        int m = someMark();
        int n = someMark();
        int c = some(countries);
        int g = some(goods);
        int t = someDay();
        int what = random.nextInt(20) == 0 ? pick(ODD) : random.nextInt(7);
        switch (random.nextInt(15)) {
            case 0: return agree("paperOf " + n + " " + what, real.paperOf(n, what), oracle.paperOf(n, what));
            case 1: return agree("markOf " + m + " " + what, real.markOf(m, what), oracle.markOf(m, what));
            case 2: return agree("soundOf " + m + " " + what, real.soundOf(m, what), oracle.soundOf(m, what));
            case 3: return agree("like " + m + " " + n + " " + what / 3, real.like(m, n, what / 3), oracle.like(m, n, what / 3));
            case 4: case 5: return agree("right " + m + " " + g + " " + c + " " + t + " " + what / 2,
                real.right(m, g, c, t, what / 2), oracle.right(m, g, c, t, what / 2));
            case 6: return agree("state " + m + " " + t + " " + what, real.state(m, t, what), oracle.state(m, t, what));
            case 7: case 12: case 13: m = random.nextInt(2) == 0 ? oracle.first(n, c, t) : m;
                return agree("clash " + m + " " + n + " " + c + " " + t, real.clash(m, n, c, t), oracle.clash(m, n, c, t));
            case 8: return agree("first " + m + " " + c + " " + t, real.first(m, c, t), oracle.first(m, c, t));
            case 9: case 10: {
                int p = some(persons);
                return agree("may " + p + " " + m + " " + g + " " + c + " " + t,
                    real.may(p, m, g, c, t), oracle.may(p, m, g, c, t));
            }
            case 11: return agree("watch " + what, real.watch(what), oracle.watch(what));
            default: return agree("about " + what, real.about(what), oracle.about(what));
        }
    }

    private boolean oppose() {
        int m = calm && random.nextInt(4) > 0 ? oracle.marks.size() - 1 - some(3) : someMark();
        int by = random.nextInt(2) == 0 ? oracle.first(m, some(countries), day) : someMark();
        int t = random.nextInt(3) == 0 ? someDay() : day;
        boolean fine = agree("oppose " + m + " " + by + " " + t, real.oppose(m, by, t), oracle.oppose(m, by, t));
        day = oracle.about(2);
        return fine;
    }

    private boolean undo() {
        boolean fine = agree("undo", real.undo(), oracle.undo());
        day = oracle.about(2);
        return fine;
    }

    private int someKind() {
        return random.nextInt(40) == 0 ? pick(ODD) : calm ? pick(CALM_KINDS) : random.nextInt(9);
    }

    private boolean step() {
        int r = random.nextInt(100);
        if (r < 6) return tellWords();
        if (r < (busy ? 10 : 20)) return makeMark();
        if (r < 22) return spell();
        if (r < 58) return tellPaper(someKind(), someMark());
        if (r < 61) return oppose();
        if (r < 63) return undo();
        return ask();
    }

    public static void main(String[] args) {
        Due due = new Due();
        Map<String, Integer> told = new TreeMap<>();
        for (int run = 0; run < RUNS && due.wrong() == 0; run++) {
            OracleTest test = new OracleTest(run, told);
            boolean fine = true;
            while (fine && test.log.size() <= CALLS) {
                fine = test.step();
            }
            due.yes("run " + run + " agrees", fine);
        }
        TOLD_AT_LEAST.forEach((call, least) -> due.yes(call + " told something in " + told.getOrDefault(call, 0) + " answers",
            told.getOrDefault(call, 0) >= least));
        due.end();
    }
}
