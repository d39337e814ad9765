/** Promises 10, 11 and 17 to 22: papers, rights, and who stands in whose way. */
public final class PapersTest {
    private static final int MIN = Integer.MIN_VALUE;
    private static final int MAX = Integer.MAX_VALUE;
    private static final int GOODS = 0;
    private static final int ENTER = 1;
    private static final int RENEW = 2;
    private static final int GIVE = 3;
    private static final int STRIKE = 4;
    private static final int LEAVE = 5;
    private static final int USE = 6;
    private static final int KNOWN = 7;
    private static final int JOIN = 8;
    private static final Due DUE = new Due();

    private static MarksRegister register(int... kinds) {
        MarksRegister r = new MarksRegister();
        for (int i = 0; i < kinds.length; i++) {
            r.mark(kinds[i], i);
            r.letter(i, 3);
        }
        return r;
    }

    private static void takes(MarksRegister r, int kind, int mark, int x, int day) {
        int count = r.about(1);
        DUE.is("paper " + kind + " " + mark + " " + x + " " + day, r.paper(kind, mark, x, day), count);
        DUE.is("papers then", r.about(1), count + 1);
    }

    private static void refuses(MarksRegister r, int kind, int mark, int x, int day) {
        int count = r.about(1);
        int latest = r.about(2);
        DUE.is("paper " + kind + " " + mark + " " + x + " " + day, r.paper(kind, mark, x, day), -1);
        DUE.is("papers then", r.about(1), count);
        DUE.is("the latest day then", r.about(2), latest);
    }

    /** Goods and an entry in a country, both of one day. */
    private static void enters(MarksRegister r, int mark, int goods, int country, int day) {
        takes(r, GOODS, mark, goods, day);
        takes(r, ENTER, mark, country, day);
    }

    private static void rights(MarksRegister r, int mark, int goods, int country, int day, int... due) {
        for (int what = 0; what < 3; what++) {
            DUE.is("right " + mark + " " + goods + " " + country + " " + day + " " + what,
                r.right(mark, goods, country, day, what), due[what]);
        }
    }

    private static void state(MarksRegister r, int mark, int day, int... due) {
        for (int what = 0; what < 6; what++) {
            DUE.is("state " + mark + " " + day + " " + what, r.state(mark, day, what), due[what]);
        }
    }

    private static void wrongPapers() {
        MarksRegister r = register(3, 4);
        enters(r, 0, 5, 5, 100);
        int[][] wrong = {
            {-1, 0, 0, 100}, {9, 0, 0, 100}, {MAX, 0, 0, 100}, {MIN, 0, 0, 100},
            {GOODS, -1, 0, 100}, {GOODS, 2, 0, 100}, {GOODS, MAX, 0, 100}, {GOODS, MIN, 0, 100},
            {GOODS, 0, -1, 100}, {GOODS, 0, 360, 100}, {ENTER, 0, -1, 100}, {ENTER, 0, 16, 100},
            {GIVE, 0, -1, 100}, {GIVE, 0, 360, 100}, {USE, 0, -1, 100}, {USE, 0, 360, 100},
            {LEAVE, 0, -1, 100}, {LEAVE, 0, 100, 100}, {JOIN, 0, -1, 100}, {JOIN, 0, 100, 100},
            {RENEW, 0, 1, 3700}, {RENEW, 0, -1, 3700}, {STRIKE, 0, 1, 100}, {STRIKE, 0, -1, 100},
            {GOODS, 0, 6, 99}, {GOODS, 0, 6, -1}, {GOODS, 0, 6, 60001}, {GOODS, 0, 6, MAX}, {GOODS, 0, 6, MIN},
            {GOODS, 0, MAX, 100}, {ENTER, 0, MIN, 100}};
        for (int[] w : wrong) {
            refuses(r, w[0], w[1], w[2], w[3]);
        }
        enters(r, 1, 5, 5, 100);
        refuses(r, KNOWN, 1, 1, 100);
        refuses(r, KNOWN, 1, -1, 100);
        takes(r, KNOWN, 1, 0, 100);
        takes(r, GOODS, 0, 0, 60000);
        takes(r, GOODS, 0, 359, 60000);
        takes(r, ENTER, 0, 0, 60000);
        takes(r, ENTER, 0, 15, 60000);
        takes(r, LEAVE, 0, 0, 60000);
        takes(r, LEAVE, 0, 99, 60000);
        takes(r, JOIN, 0, 0, 60000);
        takes(r, JOIN, 0, 99, 60000);
        takes(r, USE, 0, 359, 60000);
        takes(r, GIVE, 0, 359, 60000);
        refuses(r, GOODS, 0, 7, 59999);
    }

    private static void papersOfGoods() {
        MarksRegister r = register(0);
        refuses(r, ENTER, 0, 1, 0);
        takes(r, GOODS, 0, 1, 0);
        refuses(r, GOODS, 0, 1, 0);
        refuses(r, GOODS, 0, 1, 9);
        refuses(r, GIVE, 0, 1, 9);
        refuses(r, USE, 0, 1, 9);
        takes(r, ENTER, 0, 1, 9);
        refuses(r, ENTER, 0, 1, 9);
        takes(r, ENTER, 0, 2, 9);
        refuses(r, GIVE, 0, 2, 9);
        refuses(r, USE, 0, 2, 9);
        takes(r, USE, 0, 1, 9);
        takes(r, USE, 0, 1, 9);
        takes(r, GIVE, 0, 1, 10);
        refuses(r, GIVE, 0, 1, 10);
        refuses(r, USE, 0, 1, 10);
        refuses(r, GIVE, 0, 1, 11);
        takes(r, GOODS, 0, 1, 10);
        refuses(r, GOODS, 0, 1, 10);
        takes(r, USE, 0, 1, 10);
        takes(r, GIVE, 0, 1, 10);
        refuses(r, USE, 0, 1, 12);
        takes(r, ENTER, 0, 3, 12);
        takes(r, GOODS, 0, 1, 12);
    }

    private static void twentyGoods() {
        MarksRegister r = register(0, 0);
        for (int g = 0; g < 20; g++) {
            takes(r, GOODS, 0, 10 * g, 7);
            DUE.is("goods", r.state(0, 7, 4), g + 1);
        }
        refuses(r, GOODS, 0, 1, 7);
        takes(r, GOODS, 1, 1, 7);
        takes(r, ENTER, 0, 0, 8);
        takes(r, GIVE, 0, 50, 8);
        DUE.is("goods of the day of giving up", r.state(0, 8, 4), 20);
        refuses(r, GOODS, 0, 1, 8);
        refuses(r, GOODS, 0, 50, 8);
        DUE.is("goods of the day behind it", r.state(0, 9, 4), 19);
        takes(r, GOODS, 0, 1, 9);
        refuses(r, GOODS, 0, 50, 9);
        DUE.is("goods", r.state(0, 9, 4), 20);
        for (int g = 0; g < 20; g++) {
            int goods = g == 5 ? 1 : 10 * g;
            DUE.is("stands for " + goods, r.right(0, goods, 0, 9, 2), 1);
        }
        DUE.is("not for what was given up", r.right(0, 50, 0, 9, 2), 0);
    }

    private static void renewals() {
        MarksRegister r = register(0, 0);
        takes(r, GOODS, 0, 1, 5);
        refuses(r, RENEW, 0, 0, 5);
        refuses(r, RENEW, 0, 0, 3655);
        takes(r, ENTER, 0, 1, 10);
        takes(r, ENTER, 0, 2, 300);
        refuses(r, RENEW, 0, 0, 3294);
        takes(r, RENEW, 0, 0, 3295);
        state(r, 0, 3294, 10, 3660, 0, 0, 1, 2);
        state(r, 0, 3295, 10, 7310, 0, 0, 1, 2);
        refuses(r, RENEW, 0, 0, 3295);
        state(r, 0, 7490, 10, 7310, 0, 0, 1, 2);
        state(r, 0, 7491, 10, 7310, 1, 0, 1, 2);
        refuses(r, RENEW, 0, 0, 7491);
        takes(r, RENEW, 0, 0, 7490);
        state(r, 0, 7491, 10, 10960, 0, 0, 1, 2);
        state(r, 0, 11140, 10, 10960, 0, 0, 1, 2);
        state(r, 0, 11141, 10, 10960, 1, 0, 1, 2);
        refuses(r, RENEW, 1, 0, 7490);
    }

    private static void otherPapers() {
        MarksRegister r = register(3, 4, 0);
        for (int kind = RENEW; kind <= JOIN; kind++) {
            refuses(r, kind, 0, 0, 0);
            refuses(r, kind, 1, 0, 0);
        }
        takes(r, GOODS, 0, 4, 0);
        takes(r, GOODS, 1, 4, 0);
        for (int kind : new int[] {STRIKE, LEAVE, KNOWN, JOIN}) {
            refuses(r, kind, 0, 0, 0);
            refuses(r, kind, 1, 0, 0);
        }
        takes(r, ENTER, 0, 4, 0);
        takes(r, ENTER, 1, 4, 0);
        enters(r, 2, 4, 4, 0);
        refuses(r, KNOWN, 0, 0, 0);
        refuses(r, KNOWN, 2, 0, 0);
        takes(r, KNOWN, 1, 0, 0);
        refuses(r, KNOWN, 1, 0, 1);
        refuses(r, JOIN, 1, 9, 1);
        refuses(r, JOIN, 2, 9, 1);
        takes(r, JOIN, 0, 9, 1);
        refuses(r, JOIN, 0, 9, 1);
        refuses(r, JOIN, 0, 9, 5);
        takes(r, JOIN, 0, 8, 1);
        takes(r, LEAVE, 0, 9, 2);
        refuses(r, LEAVE, 0, 9, 2);
        refuses(r, LEAVE, 0, 9, 3);
        takes(r, LEAVE, 0, 8, 2);
        takes(r, LEAVE, 1, 9, 2);
        takes(r, LEAVE, 2, 2, 2);
        takes(r, STRIKE, 0, 0, 3);
        refuses(r, STRIKE, 0, 0, 3);
        refuses(r, STRIKE, 0, 0, 4);
        takes(r, STRIKE, 1, 0, 3);
        DUE.is("struck ahead", r.state(0, 2, 3), 0);
        DUE.is("struck that day", r.state(0, 3, 3), 1);
        DUE.is("not struck", r.state(2, 3, 3), 0);
        takes(r, ENTER, 0, 5, 3);
        takes(r, GOODS, 0, 5, 3);
        takes(r, RENEW, 0, 0, 3285);
    }

    private static void fourHundredPapers() {
        MarksRegister r = register(0, 0);
        enters(r, 0, 0, 0, 0);
        for (int i = 2; i < 400; i++) {
            DUE.is("paper " + i, r.paper(USE, 0, 0, 50), i);
        }
        refuses(r, USE, 0, 0, 50);
        refuses(r, GOODS, 1, 0, 50);
        DUE.is("undo", r.undo(), 399);
        takes(r, GOODS, 1, 0, 50);
        refuses(r, ENTER, 1, 0, 50);
        DUE.is("the last paper", r.paperOf(399, 1), 1);
        DUE.is("no paper 400", r.paperOf(400, 1), -1);
    }

    private static void promise17() {
        MarksRegister r = register(0, 0);
        takes(r, GOODS, 0, 8, 90);
        rights(r, 0, 8, 0, 89, -1, -1, 0);
        rights(r, 0, 8, 0, 90, 90, -1, 0);
        takes(r, ENTER, 0, 0, 100);
        rights(r, 0, 8, 0, 100, 90, 100, 1);
        rights(r, 0, 8, 0, 99, 90, -1, 0);
        rights(r, 0, 9, 0, 100, -1, -1, 0);
        rights(r, 1, 8, 0, 100, -1, -1, 0);
        takes(r, GOODS, 0, 9, 100);
        takes(r, GOODS, 0, 10, 101);
        takes(r, GOODS, 0, 11, 282);
        takes(r, ENTER, 0, 1, 282);
        takes(r, ENTER, 0, 2, 283);
        takes(r, GOODS, 0, 12, 290);
        rights(r, 0, 8, 1, 290, 90, 100, 1);
        rights(r, 0, 9, 1, 290, 100, 100, 1);
        rights(r, 0, 10, 1, 290, 101, 282, 1);
        rights(r, 0, 11, 1, 290, 282, 282, 1);
        rights(r, 0, 12, 1, 290, 290, 290, 1);
        rights(r, 0, 8, 2, 290, 90, 283, 1);
        rights(r, 0, 10, 2, 290, 101, 283, 1);
        rights(r, 0, 10, 0, 290, 101, 101, 1);
        rights(r, 0, 12, 0, 289, -1, -1, 0);
        rights(r, 0, 8, 1, 281, 90, -1, 0);
        rights(r, 0, 8, 3, 290, 90, -1, 0);
        rights(r, 0, 8, 0, 1925, 90, 100, 1);
        rights(r, 0, 8, 0, 1926, 90, 100, 0);
        rights(r, 0, 12, 0, 2115, 290, 290, 1);
        rights(r, 0, 12, 0, 2116, 290, 290, 0);
        takes(r, USE, 0, 8, 300);
        takes(r, USE, 0, 9, 301);
        rights(r, 0, 8, 0, 2125, 90, 100, 1);
        rights(r, 0, 8, 0, 2126, 90, 100, 0);
        rights(r, 0, 9, 0, 2126, 100, 100, 1);
        takes(r, GIVE, 0, 8, 400);
        rights(r, 0, 8, 0, 400, 90, 100, 1);
        rights(r, 0, 8, 0, 401, -1, -1, 0);
        rights(r, 0, 8, 0, 399, 90, 100, 1);
        takes(r, GOODS, 0, 8, 500);
        rights(r, 0, 8, 0, 499, -1, -1, 0);
        rights(r, 0, 8, 0, 500, 500, 500, 1);
        rights(r, 0, 8, 0, 2325, 500, 500, 1);
        rights(r, 0, 8, 0, 2326, 500, 500, 0);
        takes(r, STRIKE, 0, 0, 600);
        rights(r, 0, 8, 0, 599, 500, 500, 1);
        rights(r, 0, 8, 0, 600, 500, 500, 0);
        int[][] wrong = {{-1, 8, 0, 290, 0}, {2, 8, 0, 290, 0}, {0, -1, 0, 290, 2}, {0, 360, 0, 290, 2},
            {0, 8, -1, 290, 0}, {0, 8, 16, 290, 0}, {0, 8, 0, -1, 2}, {0, 8, 0, 60001, 2}, {0, 8, 0, 290, -1},
            {0, 8, 0, 290, 3}, {MAX, 8, 0, 290, 2}, {0, MAX, 0, 290, 2}, {0, 8, MAX, 290, 2}, {0, 8, 0, MAX, 2},
            {0, 8, 0, 290, MAX}, {MIN, MIN, MIN, MIN, MIN}};
        for (int[] w : wrong) {
            DUE.is("right " + w[0] + " " + w[1] + " " + w[2] + " " + w[3] + " " + w[4],
                r.right(w[0], w[1], w[2], w[3], w[4]), -1);
        }
        DUE.is("the last day", r.right(0, 8, 0, 60000, 2), 0);
        DUE.is("the last day", r.right(0, 8, 0, 60000, 0), 500);
    }

    private static void lapsedMarks() {
        MarksRegister r = register(0);
        enters(r, 0, 8, 0, 100);
        takes(r, USE, 0, 8, 3000);
        rights(r, 0, 8, 0, 3930, 100, 100, 1);
        rights(r, 0, 8, 0, 3931, 100, 100, 0);
    }

    private static void promise18() {
        MarksRegister r = register(0, 0);
        takes(r, GOODS, 0, 8, 5);
        takes(r, GOODS, 0, 9, 6);
        state(r, 0, 4, -1, -1, -1, 0, 0, 0);
        state(r, 0, 6, -1, -1, -1, 0, 2, 0);
        takes(r, ENTER, 0, 3, 10);
        takes(r, ENTER, 0, 1, 11);
        state(r, 0, 9, -1, -1, -1, 0, 2, 0);
        state(r, 0, 10, 10, 3660, 0, 0, 2, 1);
        state(r, 0, 11, 10, 3660, 0, 0, 2, 2);
        takes(r, GIVE, 0, 8, 12);
        takes(r, STRIKE, 0, 0, 12);
        state(r, 0, 12, 10, 3660, 0, 1, 2, 2);
        state(r, 0, 13, 10, 3660, 0, 1, 1, 2);
        state(r, 0, 3840, 10, 3660, 0, 1, 1, 2);
        state(r, 0, 3841, 10, 3660, 1, 1, 1, 2);
        state(r, 1, 60000, -1, -1, -1, 0, 0, 0);
        int[][] wrong = {{-1, 5, 3}, {2, 5, 3}, {0, -1, 3}, {0, 60001, 3}, {0, 5, -1}, {0, 5, 6}, {MAX, 5, 3},
            {0, MIN, 3}, {0, 5, MAX}, {0, 5, MIN}};
        for (int[] w : wrong) {
            DUE.is("state " + w[0] + " " + w[1] + " " + w[2], r.state(w[0], w[1], w[2]), -1);
        }
    }

    private static void clashes(MarksRegister r, int a, int b, int country, int day, int g, int h) {
        DUE.is("clash " + a + " " + b + " " + country + " " + day, r.clash(a, b, country, day), 360 * g + h);
    }

    private static void noClash(MarksRegister r, int a, int b, int country, int day) {
        DUE.is("clash " + a + " " + b + " " + country + " " + day, r.clash(a, b, country, day), -1);
    }

    private static void promise19() {
        MarksRegister r = register(0, 0, 0);
        enters(r, 1, 8, 0, 10);
        enters(r, 0, 8, 0, 10);
        enters(r, 2, 8, 0, 11);
        clashes(r, 0, 1, 0, 10, 8, 8);
        noClash(r, 1, 0, 0, 10);
        noClash(r, 1, 2, 0, 10);
        clashes(r, 1, 2, 0, 11, 8, 8);
        noClash(r, 2, 1, 0, 11);
        noClash(r, 1, 1, 0, 11);
        noClash(r, 1, 2, 1, 11);
        clashes(r, 1, 2, 0, 1835, 8, 8);
        noClash(r, 1, 2, 0, 1836);
        takes(r, LEAVE, 1, 2, 20);
        clashes(r, 1, 2, 0, 19, 8, 8);
        noClash(r, 1, 2, 0, 20);
        clashes(r, 0, 2, 0, 20, 8, 8);
        takes(r, STRIKE, 0, 0, 21);
        noClash(r, 0, 2, 0, 21);
        int[][] wrong = {{-1, 2, 0, 20}, {3, 2, 0, 20}, {0, -1, 0, 20}, {0, 3, 0, 20}, {0, 2, -1, 20}, {0, 2, 16, 20},
            {0, 2, 0, -1}, {0, 2, 0, 60001}, {MAX, 2, 0, 20}, {0, MIN, 0, 20}, {0, 2, MAX, 20}, {0, 2, 0, MIN}};
        for (int[] w : wrong) {
            noClash(r, w[0], w[1], w[2], w[3]);
        }
    }

    private static void clashesOfLikeness() {
        MarksRegister r = new MarksRegister();
        for (int m = 0; m < 3; m++) {
            r.mark(0, m == 2 ? 0 : m);
            for (int l = 0; l < 10; l++) {
                r.letter(m, l < 3 * (m % 2) ? 20 : 3);
            }
            enters(r, m, 8, 0, 10 + m);
        }
        DUE.is("like", r.like(0, 1, 0), 700);
        clashes(r, 0, 1, 0, 12, 8, 8);
        noClash(r, 0, 2, 0, 12);
        clashes(r, 1, 2, 0, 12, 8, 8);
        r.levels(701, 500);
        noClash(r, 0, 1, 0, 12);
        r.levels(1, 500);
        r.cost(60, 43, 100);
        r.cost(60, -1, 100);
        r.row(20, 0);
        DUE.is("like", r.like(0, 1, 0), 700);
        clashes(r, 0, 1, 0, 12, 8, 8);
    }

    private static void clashesOfGoods() {
        MarksRegister r = register(0, 0);
        r.near(300, 7, 500);
        r.near(100, 200, 499);
        r.near(20, 9, 600);
        r.near(20, 5, 600);
        for (int g : new int[] {300, 100, 20, 350}) {
            takes(r, GOODS, 0, g, 10);
        }
        takes(r, ENTER, 0, 0, 10);
        for (int h : new int[] {7, 200, 9, 5, 350}) {
            takes(r, GOODS, 1, h, 20);
        }
        takes(r, ENTER, 1, 0, 20);
        clashes(r, 0, 1, 0, 20, 20, 5);
        takes(r, GIVE, 1, 5, 21);
        clashes(r, 0, 1, 0, 21, 20, 5);
        clashes(r, 0, 1, 0, 22, 20, 9);
        takes(r, GIVE, 0, 20, 30);
        clashes(r, 0, 1, 0, 30, 20, 9);
        clashes(r, 0, 1, 0, 31, 300, 7);
        r.levels(700, 501);
        clashes(r, 0, 1, 0, 31, 350, 350);
        r.levels(700, 499);
        clashes(r, 0, 1, 0, 31, 100, 200);
        r.levels(700, 1000);
        clashes(r, 0, 1, 0, 31, 350, 350);
        takes(r, GOODS, 0, 20, 40);
        r.levels(700, 500);
        clashes(r, 0, 1, 0, 40, 300, 7);
        noClash(r, 1, 0, 0, 22);
        clashes(r, 1, 0, 0, 40, 9, 20);
    }

    /** A must have stood already by the day of B's right, which its own priority may reach behind. */
    private static void clashesOfThePast() {
        MarksRegister r = register(0, 0, 0);
        enters(r, 0, 8, 0, 10);
        enters(r, 1, 8, 0, 20);
        takes(r, ENTER, 1, 1, 30);
        takes(r, ENTER, 0, 1, 40);
        rights(r, 0, 8, 1, 40, 10, 10, 1);
        rights(r, 1, 8, 1, 40, 20, 20, 1);
        clashes(r, 0, 1, 0, 40, 8, 8);
        noClash(r, 0, 1, 1, 40);
        noClash(r, 1, 0, 1, 40);
        enters(r, 2, 8, 1, 1900);
        takes(r, USE, 0, 8, 1901);
        rights(r, 0, 8, 1, 1900, 10, 10, 0);
        rights(r, 0, 8, 1, 1901, 10, 10, 1);
        noClash(r, 0, 2, 1, 1901);
        takes(r, GOODS, 2, 9, 1902);
        takes(r, GOODS, 1, 9, 1902);
        r.near(8, 9, 800);
        clashes(r, 0, 2, 1, 1902, 8, 9);
    }

    private static void clashesOfKnownMarks() {
        MarksRegister r = register(4, 0, 4);
        enters(r, 0, 8, 0, 10);
        enters(r, 1, 300, 0, 20);
        enters(r, 2, 200, 0, 30);
        noClash(r, 0, 1, 0, 30);
        takes(r, KNOWN, 0, 0, 40);
        noClash(r, 0, 1, 0, 39);
        clashes(r, 0, 1, 0, 40, 8, 300);
        clashes(r, 0, 2, 0, 40, 8, 200);
        takes(r, KNOWN, 2, 0, 50);
        noClash(r, 1, 2, 0, 50);
        noClash(r, 2, 1, 0, 50);
    }

    private static void promise11() {
        MarksRegister r = register(0, 0, 0);
        enters(r, 0, 8, 7, 10);
        enters(r, 1, 8, 7, 20);
        DUE.is("none clashes", r.oppose(2, 0, 20), -1);
        DUE.is("the elder is not opposed", r.oppose(0, 1, 20), -1);
        DUE.is("not by itself", r.oppose(1, 1, 20), -1);
        DUE.is("too late", r.oppose(1, 0, 111), -1);
        DUE.is("a day below the latest paper's", r.oppose(1, 0, 19), -1);
        int[][] wrong = {{-1, 0, 20}, {3, 0, 20}, {1, -1, 20}, {1, 3, 20}, {1, 0, -1}, {1, 0, 60001}, {MAX, 0, 20},
            {1, MIN, 20}, {1, 0, MAX}, {1, 0, MIN}};
        for (int[] w : wrong) {
            DUE.is("oppose " + w[0] + " " + w[1] + " " + w[2], r.oppose(w[0], w[1], w[2]), -1);
        }
        DUE.is("nothing is changed", r.about(1), 4);
        DUE.is("in time", r.oppose(1, 0, 110), 4);
        int[] due = {STRIKE, 1, 0, 110};
        for (int what = 0; what < due.length; what++) {
            DUE.is("its paper's " + what, r.paperOf(4, what), due[what]);
        }
        DUE.is("again", r.oppose(1, 0, 110), -1);
        DUE.is("undo", r.undo(), 4);
        takes(r, ENTER, 1, 15, 100);
        takes(r, ENTER, 0, 15, 101);
        DUE.is("by FIRST, not by the country's entry", r.oppose(1, 0, 111), -1);
        DUE.is("in time", r.oppose(1, 0, 101), 6);
        DUE.is("undo", r.undo(), 6);
        takes(r, GIVE, 0, 8, 105);
        DUE.is("no goods any more", r.oppose(1, 0, 106), -1);
        DUE.is("goods of that day", r.oppose(1, 0, 105), 7);
    }

    private static void opposeInTheLastCountry() {
        MarksRegister r = register(0, 0);
        enters(r, 0, 8, 15, 10);
        enters(r, 1, 8, 15, 20);
        for (int i = 4; i < 399; i++) {
            r.paper(USE, 0, 8, 20);
        }
        DUE.is("the 400th paper", r.oppose(1, 0, 20), 399);
        DUE.is("undo", r.undo(), 399);
        takes(r, USE, 0, 8, 20);
        DUE.is("the 401st paper", r.oppose(1, 0, 20), -1);
    }

    private static void promise20() {
        MarksRegister r = register(0, 0, 0, 0, 0);
        takes(r, GOODS, 0, 8, 30);
        takes(r, GOODS, 1, 50, 30);
        takes(r, ENTER, 0, 0, 30);
        takes(r, ENTER, 1, 0, 30);
        enters(r, 2, 8, 0, 31);
        takes(r, GOODS, 1, 8, 31);
        enters(r, 3, 8, 0, 40);
        DUE.is("none ahead", r.first(0, 0, 40), -1);
        DUE.is("the eldest", r.first(3, 0, 40), 0);
        DUE.is("the eldest", r.first(2, 0, 40), 0);
        DUE.is("no day yet", r.first(3, 0, 39), -1);
        DUE.is("no such entry", r.first(3, 1, 40), -1);
        DUE.is("no papers", r.first(4, 0, 40), -1);
        takes(r, STRIKE, 0, 0, 41);
        DUE.is("of one day the lowest", r.first(3, 0, 41), 1);
        r.near(50, 8, 500);
        DUE.is("the elder goods", r.first(3, 0, 41), 1);
        DUE.is("the elder goods", r.first(2, 0, 41), 1);
        takes(r, GIVE, 1, 8, 42);
        DUE.is("near goods", r.first(3, 0, 43), 1);
        r.near(50, 8, 0);
        DUE.is("the next", r.first(3, 0, 43), 2);
        int[][] wrong = {{-1, 0, 40}, {5, 0, 40}, {3, -1, 40}, {3, 16, 40}, {3, 0, -1}, {3, 0, 60001}, {MAX, 0, 40},
            {3, MIN, 40}, {3, 0, MAX}};
        for (int[] w : wrong) {
            DUE.is("first " + w[0] + " " + w[1] + " " + w[2], r.first(w[0], w[1], w[2]), -1);
        }
    }

    /** The higher number with the earlier right goes ahead of the lower one. */
    private static void firstOfHigherNumber() {
        MarksRegister r = register(0, 0, 0, 0);
        r.near(1, 2, 900);
        enters(r, 2, 1, 0, 5);
        enters(r, 1, 2, 0, 6);
        takes(r, GOODS, 0, 2, 7);
        takes(r, ENTER, 0, 0, 8);
        enters(r, 3, 2, 0, 9);
        DUE.is("the earliest right", r.first(3, 0, 9), 2);
        takes(r, LEAVE, 2, 3, 10);
        DUE.is("with its leave the next", r.first(3, 0, 10), 1);
        takes(r, STRIKE, 1, 0, 11);
        DUE.is("then the last", r.first(3, 0, 11), 0);
    }

    private static void mayBear(MarksRegister r, int person, int sign, int goods, int day, int due) {
        DUE.is("may " + person + " " + sign + " " + goods + " 0 " + day, r.may(person, sign, goods, 0, day), due);
    }

    private static void promise21() {
        MarksRegister r = register(3, 0, 0, 0);
        r.near(8, 9, 500);
        mayBear(r, 5, 3, 8, 0, 0);
        enters(r, 0, 8, 0, 20);
        takes(r, JOIN, 0, 50, 21);
        takes(r, JOIN, 0, 51, 21);
        takes(r, LEAVE, 0, 51, 22);
        mayBear(r, 5, 3, 8, 19, 0);
        mayBear(r, 5, 3, 8, 20, 10);
        mayBear(r, 5, 3, 9, 20, 10);
        mayBear(r, 5, 3, 10, 20, 0);
        mayBear(r, 50, 3, 8, 20, 10);
        mayBear(r, 50, 3, 8, 21, 3);
        mayBear(r, 51, 3, 8, 21, 3);
        mayBear(r, 51, 3, 8, 22, 2);
        mayBear(r, 0, 3, 8, 22, 1);
        DUE.is("another country", r.may(5, 3, 8, 1, 22), 0);
        enters(r, 2, 9, 0, 30);
        enters(r, 1, 8, 0, 30);
        takes(r, LEAVE, 1, 50, 30);
        mayBear(r, 0, 3, 8, 30, 11);
        mayBear(r, 5, 3, 8, 30, 10);
        mayBear(r, 50, 3, 8, 30, 12);
        takes(r, LEAVE, 2, 0, 31);
        takes(r, LEAVE, 2, 50, 31);
        takes(r, LEAVE, 1, 0, 31);
        mayBear(r, 0, 3, 8, 31, 1);
        mayBear(r, 50, 3, 8, 31, 2);
        takes(r, STRIKE, 1, 0, 32);
        takes(r, STRIKE, 2, 0, 32);
        mayBear(r, 50, 3, 8, 32, 3);
        mayBear(r, 50, 3, 8, 1846, 0);
        int[][] wrong = {{-1, 3, 8, 0, 30}, {100, 3, 8, 0, 30}, {5, -1, 8, 0, 30}, {5, 4, 8, 0, 30}, {5, 3, -1, 0, 30},
            {5, 3, 360, 0, 30}, {5, 3, 8, -1, 30}, {5, 3, 8, 16, 30}, {5, 3, 8, 0, -1}, {5, 3, 8, 0, 60001},
            {MAX, 3, 8, 0, 30}, {5, MIN, 8, 0, 30}, {5, 3, MAX, 0, 30}, {5, 3, 8, MIN, 30}, {5, 3, 8, 0, MAX}};
        for (int[] w : wrong) {
            DUE.is("may " + w[0] + " " + w[1] + " " + w[2] + " " + w[3] + " " + w[4],
                r.may(w[0], w[1], w[2], w[3], w[4]), -1);
        }
    }

    private static void mayBearTheSignItself() {
        MarksRegister r = register(1, 1, 4);
        enters(r, 2, 8, 0, 10);
        enters(r, 0, 8, 0, 20);
        DUE.is("a bare picture is not like itself", r.like(0, 0, 0), 0);
        mayBear(r, 5, 0, 8, 20, 10);
        mayBear(r, 0, 0, 8, 20, 1);
        mayBear(r, 5, 1, 8, 20, 0);
        mayBear(r, 5, 2, 8, 20, 12);
        mayBear(r, 5, 2, 100, 20, 0);
        takes(r, KNOWN, 2, 0, 30);
        mayBear(r, 5, 2, 100, 29, 0);
        mayBear(r, 5, 2, 100, 30, 12);
        mayBear(r, 2, 2, 100, 30, 1);
    }

    private static void mayBearAheadOfOthers() {
        MarksRegister r = register(0, 0, 0);
        r.near(1, 3, 700);
        takes(r, GOODS, 1, 5, 10);
        enters(r, 0, 3, 0, 12);
        takes(r, ENTER, 1, 0, 12);
        takes(r, GOODS, 1, 1, 13);
        mayBear(r, 9, 2, 3, 13, 10);
        mayBear(r, 9, 2, 1, 13, 10);
        mayBear(r, 9, 2, 5, 13, 11);
        takes(r, GIVE, 0, 3, 14);
        takes(r, GOODS, 0, 3, 14);
        mayBear(r, 9, 2, 3, 13, 10);
        mayBear(r, 9, 2, 3, 14, 11);
        mayBear(r, 9, 2, 1, 14, 11);
    }

    private static void watching(MarksRegister r, int... due) {
        for (int i = 0; i < due.length; i++) {
            DUE.is("watch " + i, r.watch(i), due[i]);
        }
        for (int i : new int[] {due.length, due.length + 1, 119, 120, -1, MAX, MIN}) {
            DUE.is("watch " + i, r.watch(i), -1);
        }
    }

    private static void promise22() {
        MarksRegister r = register(0, 0, 0, 4, 0);
        r.mark(0, 4);
        r.letter(5, 3);
        r.near(8, 9, 500);
        watching(r);
        takes(r, GOODS, 4, 8, 5);
        watching(r);
        enters(r, 2, 8, 0, 10);
        watching(r);
        enters(r, 0, 9, 0, 11);
        watching(r, 2);
        enters(r, 1, 100, 0, 12);
        watching(r);
        enters(r, 3, 200, 0, 13);
        watching(r);
        enters(r, 5, 8, 0, 14);
        watching(r, 0, 2);
        takes(r, ENTER, 4, 0, 15);
        watching(r, 0, 2);
        takes(r, KNOWN, 3, 0, 15);
        watching(r, 0, 2, 3);
        takes(r, STRIKE, 2, 0, 15);
        watching(r, 0, 3);
        takes(r, STRIKE, 0, 0, 16);
        watching(r, 0, 3);
        r.levels(700, 501);
        watching(r, 3);
        r.levels(700, 500);
        takes(r, GIVE, 4, 8, 16);
        watching(r, 0, 3);
        takes(r, ENTER, 4, 1, 16);
        watching(r);
        DUE.is("undo", r.undo(), r.about(1));
        watching(r, 0, 3);
        takes(r, ENTER, 3, 1, 16);
        watching(r);
        takes(r, ENTER, 4, 2, 17);
        takes(r, ENTER, 3, 2, 17);
        watching(r);
    }

    /** Of a mark that HAS nothing, even a known one is near to nothing. */
    private static void watchWithoutGoods() {
        MarksRegister r = register(4, 0);
        enters(r, 0, 8, 0, 10);
        enters(r, 1, 8, 1, 10);
        takes(r, KNOWN, 0, 0, 10);
        takes(r, GIVE, 1, 8, 11);
        takes(r, ENTER, 1, 0, 11);
        watching(r, 0);
        DUE.is("undo", r.undo(), 6);
        takes(r, ENTER, 1, 0, 12);
        watching(r);
    }

    private static void behindTheLastDay() {
        MarksRegister r = register(0, 0);
        enters(r, 0, 8, 0, 59990);
        enters(r, 1, 8, 0, 60000);
        clashes(r, 0, 1, 0, 60000, 8, 8);
        noClash(r, 0, 1, 0, 60001);
        DUE.is("first", r.first(1, 0, 60000), 0);
        DUE.is("first", r.first(1, 0, 60001), -1);
        mayBear(r, 5, 1, 8, 60000, 10);
        mayBear(r, 5, 1, 8, 60001, -1);
        state(r, 1, 60000, 60000, 63650, 0, 0, 1, 1);
        DUE.is("state", r.state(1, 60001, 0), -1);
        rights(r, 1, 8, 0, 60001, -1, -1, -1);
        DUE.is("oppose", r.oppose(1, 0, 60001), -1);
        DUE.is("oppose", r.oppose(1, 0, 60000), 4);
    }

    /** Told pairs stay told when another one, told ahead of them, is taken back. */
    private static void pairsTakenBack() {
        MarksRegister r = register(0, 0);
        enters(r, 0, 8, 0, 1);
        enters(r, 1, 9, 0, 2);
        r.near(30, 31, 900);
        r.near(40, 41, 900);
        r.near(9, 8, 900);
        clashes(r, 0, 1, 0, 2, 8, 9);
        r.near(31, 30, 0);
        clashes(r, 0, 1, 0, 2, 8, 9);
        r.near(8, 9, 499);
        noClash(r, 0, 1, 0, 2);
        r.near(8, 9, 0);
        r.levels(700, 1);
        noClash(r, 0, 1, 0, 2);
    }

    public static void main(String[] args) {
        wrongPapers();
        papersOfGoods();
        twentyGoods();
        renewals();
        otherPapers();
        fourHundredPapers();
        promise11();
        opposeInTheLastCountry();
        promise17();
        lapsedMarks();
        promise18();
        promise19();
        clashesOfLikeness();
        clashesOfGoods();
        clashesOfThePast();
        clashesOfKnownMarks();
        promise20();
        firstOfHigherNumber();
        promise21();
        mayBearTheSignItself();
        mayBearAheadOfOthers();
        promise22();
        watchWithoutGoods();
        behindTheLastDay();
        pairsTakenBack();
        DUE.end();
    }
}
