/** Promises 1 to 9, 12 to 16 and 23: rows, costs, goods' nearness, marks, and what is told of them. */
public final class WordsTest {
    private static final int MIN = Integer.MIN_VALUE;
    private static final int MAX = Integer.MAX_VALUE;
    private static final Due DUE = new Due();

    private static int markOf(MarksRegister r, int kind, int owner, String word, int... codes) {
        int m = r.mark(kind, owner);
        for (int i = 0; i < word.length(); i++) {
            DUE.is("letter " + word.charAt(i), r.letter(m, word.charAt(i) - 'a'), i + 1);
        }
        for (int i = 0; i < codes.length; i++) {
            DUE.is("code " + codes[i], r.code(m, codes[i]), i + 1);
        }
        return m;
    }

    private static void sounds(MarksRegister r, int mark, int... due) {
        DUE.is("sounds of " + mark, r.markOf(mark, 3), due.length);
        for (int k = 0; k < due.length; k++) {
            DUE.is("sound " + k + " of " + mark, r.soundOf(mark, k), due[k]);
        }
        DUE.is("sound behind the last of " + mark, r.soundOf(mark, due.length), -1);
        DUE.is("sound -1 of " + mark, r.soundOf(mark, -1), -1);
    }

    private static void promise1() {
        MarksRegister r = new MarksRegister();
        int[] about = {0, 0, 0, 0, 700, 500};
        for (int what = 0; what < about.length; what++) {
            DUE.is("new: about " + what, r.about(what), about[what]);
        }
        DUE.is("NONE", MarksRegister.NONE, -1);
        DUE.is("new: undo", r.undo(), -1);
        DUE.is("new: markOf", r.markOf(0, 0), -1);
        DUE.is("new: paperOf", r.paperOf(0, 0), -1);
        DUE.is("new: watch", r.watch(0), -1);
        int all = markOf(r, 0, 0, "abcdefghijklmnopqrstuvwxyz");
        for (int l = 0; l < 26; l++) {
            DUE.is("new: no row of " + l, r.soundOf(all, l), 40 + l);
            DUE.no("new: no place of " + l, r.sound(l, 0, 1));
        }
        int a = markOf(r, 0, 0, "a");
        int z = markOf(r, 0, 0, "z");
        int empty = r.mark(0, 0);
        DUE.is("new: change", r.like(a, z, 1), 10);
        DUE.is("new: strike", r.like(a, empty, 1), 10);
        DUE.is("new: put in", r.like(empty, z, 1), 10);
        DUE.is("new: the same", r.like(a, a, 1), 0);
        MarksRegister other = new MarksRegister();
        DUE.is("another object has its own marks", other.about(0), 0);
    }

    private static void promise2() {
        MarksRegister r = new MarksRegister();
        int m = markOf(r, 0, 0, "abz");
        sounds(r, m, 40, 41, 65);
        DUE.yes("row of 27", r.row(25, 27));
        sounds(r, m, 40, 41, 0);
        DUE.yes("row of 26 lacks the end", r.row(25, 26));
        sounds(r, m, 40, 41);
        DUE.yes("row of 2 has b", r.row(0, 2));
        sounds(r, m, 0, 41);
        DUE.yes("row of 1 lacks b", r.row(0, 1));
        sounds(r, m, 41);
        DUE.yes("row of 0 is silent", r.row(1, 0));
        sounds(r, m);
        int[][] wrong = {{-1, 3}, {26, 3}, {0, -2}, {0, 28}, {0, MAX}, {0, MIN}, {MAX, 0}, {MIN, 0}, {-1, -1}};
        for (int[] w : wrong) {
            DUE.no("row " + w[0] + " " + w[1], r.row(w[0], w[1]));
        }
        sounds(r, m);
        DUE.yes("no row any more", r.row(0, -1));
        DUE.yes("no row any more, again", r.row(0, -1));
        sounds(r, m, 40);
        DUE.yes("row again", r.row(0, 2));
        DUE.yes("its sound", r.sound(0, 1, 7));
        sounds(r, m, 7);
        DUE.yes("a new row is all 0", r.row(0, 27));
        sounds(r, m, 0);
    }

    private static void promise3() {
        MarksRegister r = new MarksRegister();
        int m = markOf(r, 0, 0, "aab");
        r.row(0, 2);
        DUE.yes("sound of place 0", r.sound(0, 0, 39));
        DUE.yes("sound of place 1", r.sound(0, 1, 38));
        sounds(r, m, 39, 38, 41);
        int[][] wrong = {{0, 2, 1}, {0, -1, 1}, {0, 0, 40}, {0, 0, -1}, {1, 0, 1}, {-1, 0, 1}, {26, 0, 1},
            {0, MAX, 1}, {0, MIN, 1}, {0, 0, MAX}, {0, 0, MIN}, {MAX, 0, 0}, {MIN, 0, 0}};
        for (int[] w : wrong) {
            DUE.no("sound " + w[0] + " " + w[1] + " " + w[2], r.sound(w[0], w[1], w[2]));
        }
        sounds(r, m, 39, 38, 41);
        DUE.yes("sound 0", r.sound(0, 0, 0));
        sounds(r, m, 0, 38, 41);
        r.row(1, 27);
        DUE.yes("sound at the end", r.sound(1, 26, 12));
        DUE.no("no place 27", r.sound(1, 27, 12));
        sounds(r, m, 0, 38, 12);
        r.row(25, 27);
        DUE.yes("last letter's place", r.sound(25, 26, 5));
        int z = markOf(r, 0, 0, "z");
        sounds(r, z, 5);
    }

    private static void promise4() {
        MarksRegister r = new MarksRegister();
        int a = markOf(r, 0, 0, "a");
        int b = markOf(r, 0, 0, "b");
        int empty = r.mark(0, 0);
        DUE.yes("change a and b", r.cost(40, 41, 7));
        DUE.is("a into b", r.like(a, b, 1), 7);
        DUE.is("b into a", r.like(b, a, 1), 7);
        DUE.yes("change b and a", r.cost(41, 40, 1));
        DUE.is("a into b, told the other way", r.like(a, b, 1), 1);
        DUE.yes("change, dearest", r.cost(40, 41, 100));
        DUE.is("strike and put in are less", r.like(a, b, 1), 20);
        DUE.yes("put a in", r.cost(40, -1, 100));
        DUE.is("strike a", r.like(a, empty, 1), 100);
        DUE.is("put a in", r.like(empty, a, 1), 100);
        DUE.is("change is less than strike and put in", r.like(a, b, 1), 100);
        DUE.is("put b in is as it was", r.like(empty, b, 1), 10);
        int[][] wrong = {{40, 40, 5}, {66, 40, 5}, {40, 66, 5}, {-1, 40, 5}, {-1, -1, 5}, {40, -2, 5}, {40, 41, 0},
            {40, 41, 101}, {40, -1, 0}, {40, -1, 101}, {MAX, 40, 5}, {40, MAX, 5}, {MIN, 40, 5}, {40, MIN, 5},
            {40, 41, MAX}, {40, 41, MIN}, {66, -1, 5}};
        for (int[] w : wrong) {
            DUE.no("cost " + w[0] + " " + w[1] + " " + w[2], r.cost(w[0], w[1], w[2]));
        }
        DUE.is("nothing is changed", r.like(a, b, 1), 100);
        DUE.is("nothing is struck", r.like(a, empty, 1), 100);
        DUE.is("the same sound stays 0", r.like(a, a, 1), 0);
        DUE.yes("sounds 0 and 65", r.cost(0, 65, 2));
        DUE.yes("sound 65 put in", r.cost(65, -1, 33));
        DUE.yes("sound 0 put in", r.cost(0, -1, 34));
        int z = markOf(r, 0, 0, "z");
        r.row(1, 27);
        DUE.is("0 into 65", r.like(b, z, 1), 2);
        DUE.is("65 put in", r.like(empty, z, 1), 33);
        DUE.is("0 struck", r.like(b, empty, 1), 34);
    }

    /** Marks of two persons, the same word, one standing for goods g, one for h, in country 0. */
    private static MarksRegister two(int g, int h) {
        MarksRegister r = new MarksRegister();
        for (int m = 0; m < 2; m++) {
            DUE.is("mark", r.mark(0, m), m);
            r.letter(m, 3);
            r.paper(0, m, m == 0 ? g : h, 5 + m);
            r.paper(1, m, 0, 5 + m);
        }
        return r;
    }

    private static void promise5() {
        MarksRegister r = two(0, 359);
        DUE.is("not near at first", r.clash(0, 1, 0, 6), -1);
        DUE.yes("near at the level", r.near(0, 359, 500));
        DUE.is("near at the level", r.clash(0, 1, 0, 6), 359);
        DUE.yes("near below the level, the other way", r.near(359, 0, 499));
        DUE.is("near below the level", r.clash(0, 1, 0, 6), -1);
        DUE.is("one pair", r.about(3), 1);
        DUE.yes("near 999, the other way", r.near(359, 0, 999));
        DUE.is("near 999", r.clash(0, 1, 0, 6), 359);
        int[][] wrong = {{0, 360, 5}, {360, 0, 5}, {-1, 0, 5}, {0, -1, 5}, {5, 5, 5}, {5, 5, 0}, {0, 359, -1},
            {0, 359, 1000}, {MAX, 0, 1}, {0, MAX, 1}, {MIN, 0, 1}, {0, MIN, 1}, {0, 359, MAX}, {0, 359, MIN}};
        for (int[] w : wrong) {
            DUE.no("near " + w[0] + " " + w[1] + " " + w[2], r.near(w[0], w[1], w[2]));
        }
        DUE.is("nothing is changed", r.clash(0, 1, 0, 6), 359);
        DUE.is("one pair still", r.about(3), 1);
        for (int i = 1; i < 100; i++) {
            DUE.yes("pair " + i, r.near(i, i + 1, 1));
            DUE.is("pairs", r.about(3), i + 1);
        }
        DUE.no("pair 101", r.near(200, 201, 1));
        DUE.no("pair 101, far up", r.near(200, 201, 999));
        DUE.yes("pair 101 of 0", r.near(200, 201, 0));
        DUE.yes("one of the 100", r.near(100, 99, 800));
        DUE.is("100 pairs", r.about(3), 100);
        DUE.yes("one in the middle to 0", r.near(51, 50, 0));
        DUE.yes("and again", r.near(50, 51, 0));
        DUE.is("99 pairs", r.about(3), 99);
        DUE.is("the others stay", r.clash(0, 1, 0, 6), 359);
        DUE.yes("room for another", r.near(200, 201, 1));
        DUE.no("but for one", r.near(202, 201, 1));
        DUE.yes("told ones to 0", r.near(0, 359, 0));
        DUE.is("not near any more", r.clash(0, 1, 0, 6), -1);
    }

    private static void promise6() {
        MarksRegister r = new MarksRegister();
        int[][] wrong = {{0, 500}, {500, 0}, {1001, 500}, {500, 1001}, {-1, 1}, {1, -1}, {MAX, 1}, {1, MIN}};
        for (int[] w : wrong) {
            DUE.no("levels " + w[0] + " " + w[1], r.levels(w[0], w[1]));
        }
        DUE.is("nothing is changed", r.about(4), 700);
        DUE.is("nothing is changed", r.about(5), 500);
        DUE.yes("levels 1 1000", r.levels(1, 1000));
        DUE.is("like", r.about(4), 1);
        DUE.is("near", r.about(5), 1000);
        DUE.yes("levels 1000 1", r.levels(1000, 1));
        DUE.is("like", r.about(4), 1000);
        DUE.is("near", r.about(5), 1);
        r = two(8, 8);
        r.levels(1000, 1000);
        DUE.is("the same word and goods, at the top", r.clash(0, 1, 0, 6), 8 * 360 + 8);
    }

    private static void promise7() {
        MarksRegister r = new MarksRegister();
        int[][] wrong = {{-1, 0}, {5, 0}, {0, -1}, {0, 100}, {MAX, 0}, {0, MIN}};
        for (int[] w : wrong) {
            DUE.is("mark " + w[0] + " " + w[1], r.mark(w[0], w[1]), -1);
        }
        for (int i = 0; i < 120; i++) {
            DUE.is("mark " + i, r.mark(i % 5, i % 2 == 0 ? 99 : 0), i);
        }
        DUE.is("mark 121", r.mark(0, 0), -1);
        DUE.is("marks", r.about(0), 120);
        DUE.is("kind", r.markOf(119, 0), 4);
        DUE.is("owner", r.markOf(119, 1), 0);
        DUE.is("owner", r.markOf(118, 1), 99);
        DUE.is("letter of the last", r.letter(119, 25), 1);
        DUE.is("no mark 120", r.letter(120, 25), -1);
    }

    private static void promise8() {
        MarksRegister r = new MarksRegister();
        for (int kind = 0; kind < 5; kind++) {
            int m = r.mark(kind, 0);
            DUE.is("letter of kind " + kind, r.letter(m, 25), 1);
        }
        int[][] wrong = {{-1, 0}, {5, 0}, {0, -1}, {0, 26}, {MAX, 0}, {0, MAX}, {MIN, 0}, {0, MIN}};
        for (int[] w : wrong) {
            DUE.is("letter " + w[0] + " " + w[1], r.letter(w[0], w[1]), -1);
        }
        for (int i = 2; i <= 40; i++) {
            DUE.is("letter " + i, r.letter(0, i % 26), i);
        }
        DUE.is("letter 41", r.letter(0, 0), -1);
        DUE.is("letters", r.markOf(0, 2), 40);
        DUE.is("sounds", r.markOf(0, 3), 40);
        DUE.is("the last sound", r.soundOf(0, 39), 40 + 40 % 26);
        DUE.is("no sound 40", r.soundOf(0, 40), -1);
        DUE.is("a paper", r.paper(0, 1, 0, 0), 0);
        DUE.is("no letter behind a paper", r.letter(1, 0), -1);
        DUE.is("another mark's", r.letter(2, 0), 2);
        DUE.is("the paper taken back", r.undo(), 0);
        DUE.is("a letter again", r.letter(1, 0), 2);
        DUE.is("a paper refused", r.paper(1, 1, 0, 0), -1);
        DUE.is("is no paper", r.letter(1, 0), 3);
    }

    private static void promise9() {
        MarksRegister r = new MarksRegister();
        for (int kind = 0; kind < 5; kind++) {
            int m = r.mark(kind, 0);
            DUE.is("code of kind " + kind, r.code(m, 32767), kind == 1 || kind == 2 ? 1 : -1);
            DUE.is("codes of kind " + kind, r.markOf(m, 4), kind == 1 || kind == 2 ? 1 : 0);
        }
        int[][] wrong = {{-1, 0}, {5, 0}, {1, -1}, {1, 32768}, {1, 32767}, {MAX, 0}, {1, MAX}, {MIN, 0}, {1, MIN}};
        for (int[] w : wrong) {
            DUE.is("code " + w[0] + " " + w[1], r.code(w[0], w[1]), -1);
        }
        for (int i = 2; i <= 12; i++) {
            DUE.is("code " + i, r.code(1, i - 2), i);
            DUE.is("code twice", r.code(1, i - 2), -1);
        }
        DUE.is("code 13", r.code(1, 100), -1);
        DUE.is("codes", r.markOf(1, 4), 12);
        DUE.is("a paper", r.paper(0, 2, 0, 0), 0);
        DUE.is("no code behind a paper", r.code(2, 0), -1);
        DUE.is("the paper taken back", r.undo(), 0);
        DUE.is("a code again", r.code(2, 0), 2);
    }

    private static void promises12And13() {
        MarksRegister r = new MarksRegister();
        r.mark(0, 7);
        r.mark(3, 8);
        DUE.is("undo without any", r.undo(), -1);
        int[][] papers = {{0, 0, 359, 3}, {1, 0, 15, 3}, {0, 1, 9, 4}, {1, 1, 2, 5}, {8, 1, 99, 6}, {5, 0, 98, 7}};
        for (int i = 0; i < papers.length; i++) {
            int[] p = papers[i];
            DUE.is("paper " + i, r.paper(p[0], p[1], p[2], p[3]), i);
        }
        for (int i = 0; i < papers.length; i++) {
            for (int what = 0; what < 4; what++) {
                DUE.is("paperOf " + i + " " + what, r.paperOf(i, what), papers[i][what]);
            }
        }
        int[][] wrong = {{-1, 0}, {6, 0}, {0, -1}, {0, 4}, {MAX, 0}, {MIN, 0}, {0, MAX}, {0, MIN}};
        for (int[] w : wrong) {
            DUE.is("paperOf " + w[0] + " " + w[1], r.paperOf(w[0], w[1]), -1);
        }
        for (int left = 5; left >= 0; left--) {
            DUE.is("undo", r.undo(), left);
            DUE.is("papers", r.about(1), left);
            DUE.is("the day of the latest", r.about(2), left == 0 ? 0 : papers[left - 1][3]);
            DUE.is("paperOf what was taken back", r.paperOf(left, 3), -1);
        }
        DUE.is("undo without any", r.undo(), -1);
        DUE.is("an earlier day fits again", r.paper(0, 0, 1, 0), 0);
    }

    private static void promises14And15() {
        MarksRegister r = new MarksRegister();
        markOf(r, 2, 42, "cab", 5, 6, 7);
        int[] due = {2, 42, 3, 3, 3};
        for (int what = 0; what < due.length; what++) {
            DUE.is("markOf 0 " + what, r.markOf(0, what), due[what]);
        }
        r.row(0, 0);
        DUE.is("letters", r.markOf(0, 2), 3);
        sounds(r, 0, 42, 41);
        int[][] wrong = {{-1, 0}, {1, 0}, {0, -1}, {0, 5}, {MAX, 0}, {MIN, 0}, {0, MAX}, {0, MIN}};
        for (int[] w : wrong) {
            DUE.is("markOf " + w[0] + " " + w[1], r.markOf(w[0], w[1]), -1);
        }
        int[][] silent = {{-1, 0}, {1, 0}, {MAX, 0}, {MIN, 0}, {0, MAX}, {0, MIN}, {0, 40}, {0, 2}};
        for (int[] w : silent) {
            DUE.is("soundOf " + w[0] + " " + w[1], r.soundOf(w[0], w[1]), -1);
        }
    }

    private static void likeBothWays(MarksRegister r, int a, int b, int due) {
        DUE.is("like " + a + " " + b, r.like(a, b, 0), due);
        DUE.is("like " + b + " " + a, r.like(b, a, 0), due);
    }

    private static void promise16OfWords() {
        MarksRegister r = new MarksRegister();
        int abc = markOf(r, 0, 0, "abc");
        int abd = markOf(r, 3, 0, "abd");
        int bc = markOf(r, 4, 0, "bc");
        int empty = r.mark(0, 0);
        int long1 = markOf(r, 0, 0, "aaaaaaa");
        likeBothWays(r, abc, abd, 667);
        likeBothWays(r, abc, bc, 667);
        likeBothWays(r, abd, bc, 334);
        likeBothWays(r, empty, abc, 0);
        likeBothWays(r, empty, empty, 1000);
        likeBothWays(r, abc, abc, 1000);
        likeBothWays(r, abc, long1, 143);
        DUE.is("cost", r.like(abc, bc, 1), 10);
        DUE.is("cost", r.like(abd, bc, 1), 20);
        DUE.is("cost", r.like(abc, long1, 1), 60);
        r.cost(43, -1, 100);
        r.cost(43, 42, 99);
        likeBothWays(r, abc, abd, 0);
        DUE.is("b put in, b into d, c struck", r.like(abc, abd, 1), 30);
        r.cost(43, 42, 1);
        likeBothWays(r, abc, abd, 967);
        DUE.is("no chain: d is struck, not changed and struck", r.like(abd, empty, 1), 120);
        DUE.is("no chain: d is put in", r.like(empty, abd, 1), 120);
        r.row(0, 0);
        likeBothWays(r, empty, long1, 1000);
        DUE.is("silent words", r.like(empty, long1, 1), 0);
        likeBothWays(r, abc, bc, 1000);
        int[][] wrong = {{-1, 0, 0}, {0, -1, 0}, {5, 0, 0}, {0, 5, 0}, {0, 1, -1}, {0, 1, 2}, {MAX, 0, 0}, {0, MIN, 1}};
        for (int[] w : wrong) {
            DUE.is("like " + w[0] + " " + w[1] + " " + w[2], r.like(w[0], w[1], w[2]), -1);
        }
    }

    private static void promise16OfPictures() {
        MarksRegister r = new MarksRegister();
        int drawn = markOf(r, 1, 0, "ab", 1, 2, 3);
        int drawn2 = markOf(r, 1, 0, "ab", 3, 9);
        int bare = markOf(r, 1, 0, "ab");
        int mixed = markOf(r, 2, 0, "ab", 2, 3);
        int mixed2 = markOf(r, 2, 0, "zz", 7, 2, 3);
        int mixed3 = markOf(r, 2, 0, "az", 20);
        int word = markOf(r, 0, 0, "ab");
        int group = markOf(r, 3, 0, "ab");
        int known = markOf(r, 4, 0, "ab");
        likeBothWays(r, drawn, drawn2, 333);
        likeBothWays(r, drawn, drawn, 1000);
        likeBothWays(r, drawn, bare, 0);
        likeBothWays(r, bare, bare, 0);
        likeBothWays(r, drawn, mixed, 666);
        likeBothWays(r, drawn, mixed3, 0);
        likeBothWays(r, mixed, mixed2, 666);
        likeBothWays(r, mixed, mixed3, 500);
        likeBothWays(r, mixed, mixed, 1000);
        for (int other : new int[] {word, group, known}) {
            likeBothWays(r, drawn, other, 0);
            likeBothWays(r, mixed, other, 1000);
            likeBothWays(r, mixed3, other, 500);
            likeBothWays(r, word, other, 1000);
        }
        DUE.is("cost of drawn marks' words", r.like(drawn, mixed3, 1), 10);
        int full = markOf(r, 1, 0, "", 1, 2, 3, 4, 5, 6, 7, 8, 9, 10, 11, 12);
        int eleven = markOf(r, 1, 0, "", 12, 11, 10, 9, 8, 7, 6, 5, 4, 3, 2);
        likeBothWays(r, full, eleven, 916);
    }

    private static void promise23() {
        MarksRegister r = two(3, 4);
        r.near(3, 4, 7);
        r.levels(11, 12);
        int[] due = {2, 4, 6, 1, 11, 12};
        for (int what = 0; what < due.length; what++) {
            DUE.is("about " + what, r.about(what), due[what]);
        }
        for (int what : new int[] {-1, 6, MIN, MAX}) {
            DUE.is("about " + what, r.about(what), -1);
        }
    }

    public static void main(String[] args) {
        promise1();
        promise2();
        promise3();
        promise4();
        promise5();
        promise6();
        promise7();
        promise8();
        promise9();
        promises12And13();
        promises14And15();
        promise16OfWords();
        promise16OfPictures();
        promise23();
        DUE.end();
    }
}
