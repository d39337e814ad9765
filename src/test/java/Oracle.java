import java.util.ArrayList;
import java.util.HashMap;
import java.util.List;
import java.util.Map;
import java.util.TreeSet;

/**
 * The document's words, one after the other, without any thought of speed: every term is a
 * function of the list of papers and of a day. It shares no line with MarksRegister.
 */
final class Oracle {
    static final int NONE = -1;

    record Paper(int kind, int mark, int x, int day) { }

    static final class Sign {
        int kind;
        int owner;
        final List<Integer> word = new ArrayList<>();
        final List<Integer> codes = new ArrayList<>();
    }

    final Map<Integer, int[]> rows = new HashMap<>();
    final Map<String, Integer> costs = new HashMap<>();
    final Map<String, Integer> pairs = new HashMap<>();
    final List<Sign> marks = new ArrayList<>();
    final List<Paper> papers = new ArrayList<>();
    int likeLevel = 700;
    int nearLevel = 500;

    private static boolean in(int n, int low, int high) {
        return low <= n && n <= high;
    }

    private boolean isMark(int m) {
        return in(m, 0, marks.size() - 1);
    }

    private static String key(int a, int b) {
        return a < b ? a + "/" + b : b + "/" + a;
    }

    boolean row(int letter, int places) {
        if (!in(letter, 0, 25) || !in(places, -1, 27)) return false;
        rows.remove(letter);
        if (places != NONE) rows.put(letter, new int[places]);
        return true;
    }

    boolean sound(int letter, int place, int s) {
        int[] r = rows.get(letter);
        if (r == null || !in(place, 0, r.length - 1) || !in(s, 0, 39)) return false;
        r[place] = s;
        return true;
    }

    boolean cost(int a, int b, int c) {
        if (!in(a, 0, 65) || !in(b, -1, 65) || a == b || !in(c, 1, 100)) return false;
        costs.put(key(a, b), c);
        return true;
    }

    private int put(int a) {
        return costs.getOrDefault(key(a, NONE), 10);
    }

    private int change(int a, int b) {
        return a == b ? 0 : costs.getOrDefault(key(a, b), 10);
    }

    boolean near(int g, int h, int v) {
        if (!in(g, 0, 359) || !in(h, 0, 359) || g == h || !in(v, 0, 999)) return false;
        if (v == 0) {
            pairs.remove(key(g, h));
            return true;
        }
        if (!pairs.containsKey(key(g, h)) && pairs.size() == 100) return false;
        pairs.put(key(g, h), v);
        return true;
    }

    private int nearOf(int g, int h) {
        return g == h ? 1000 : pairs.getOrDefault(key(g, h), 0);
    }

    boolean levels(int like, int near) {
        if (!in(like, 1, 1000) || !in(near, 1, 1000)) return false;
        likeLevel = like;
        nearLevel = near;
        return true;
    }

    int mark(int kind, int owner) {
        if (!in(kind, 0, 4) || !in(owner, 0, 99) || marks.size() == 120) return NONE;
        Sign s = new Sign();
        s.kind = kind;
        s.owner = owner;
        marks.add(s);
        return marks.size() - 1;
    }

    private boolean hasPaper(int mark) {
        return papers.stream().anyMatch(p -> p.mark() == mark);
    }

    int letter(int mark, int l) {
        if (!isMark(mark) || !in(l, 0, 25) || hasPaper(mark)) return NONE;
        List<Integer> word = marks.get(mark).word;
        if (word.size() == 40) return NONE;
        word.add(l);
        return word.size();
    }

    int code(int mark, int c) {
        if (!isMark(mark) || !in(c, 0, 32767) || hasPaper(mark)) return NONE;
        Sign s = marks.get(mark);
        if (s.kind != 1 && s.kind != 2) return NONE;
        if (s.codes.contains(c) || s.codes.size() == 12) return NONE;
        s.codes.add(c);
        return s.codes.size();
    }

    /** The papers of a kind of a mark by a day, x NONE standing for any. */
    private List<Paper> of(int kind, int mark, int x, int t) {
        return papers.stream().filter(p -> p.kind() == kind && p.mark() == mark
            && (x == NONE || p.x() == x) && p.day() <= t).toList();
    }

    private Paper latestGoodsOrGive(int mark, int g, int t) {
        List<Paper> l = papers.stream().filter(p -> (p.kind() == 0 || p.kind() == 3)
            && p.mark() == mark && p.x() == g && p.day() <= t).toList();
        return l.isEmpty() ? null : l.get(l.size() - 1);
    }

    private boolean has(int mark, int g, int t) {
        Paper p = latestGoodsOrGive(mark, g, t);
        return p != null && (p.kind() == 0 || p.day() == t);
    }

    private int since(int mark, int g, int t) {
        List<Paper> l = of(0, mark, g, t);
        return l.get(l.size() - 1).day();
    }

    private List<Integer> allGoods(int mark, int t) {
        TreeSet<Integer> set = new TreeSet<>();
        for (Paper p : of(0, mark, NONE, t)) {
            if (has(mark, p.x(), t)) set.add(p.x());
        }
        return new ArrayList<>(set);
    }

    private boolean entered(int mark, int t) {
        return !of(1, mark, NONE, t).isEmpty();
    }

    private int firstDay(int mark, int t) {
        return of(1, mark, NONE, t).get(0).day();
    }

    private int termEnd(int mark, int t) {
        return firstDay(mark, t) + 3650 * (1 + of(2, mark, NONE, t).size());
    }

    private boolean lapsed(int mark, int t) {
        return t > termEnd(mark, t) + 180;
    }

    private boolean struck(int mark, int t) {
        return !of(4, mark, NONE, t).isEmpty();
    }

    private int rightOf(int mark, int g, int country, int t) {
        if (!has(mark, g, t) || of(1, mark, country, t).isEmpty()) return NONE;
        int enter = of(1, mark, country, t).get(0).day();
        int s = since(mark, g, t);
        int f = firstDay(mark, t);
        int r = enter;
        if (enter - f <= 182 && s <= f) r = f;
        return Math.max(r, s);
    }

    private boolean stands(int mark, int g, int country, int t) {
        int r = rightOf(mark, g, country, t);
        if (r == NONE || r > t || lapsed(mark, t) || struck(mark, t)) return false;
        List<Paper> uses = of(6, mark, g, t);
        int later = uses.isEmpty() ? r : Math.max(r, uses.get(uses.size() - 1).day());
        return t - later <= 1825;
    }

    private boolean known(int mark, int t) {
        return !of(7, mark, NONE, t).isEmpty();
    }

    private boolean isNear(int a, int g, int h, int t) {
        return nearOf(g, h) >= nearLevel || known(a, t);
    }

    private boolean alike(int a, int b) {
        return likeOf(a, b) >= likeLevel;
    }

    private boolean clashes(int a, int b, int g, int h, int country, int t) {
        if (marks.get(a).owner == marks.get(b).owner) return false;
        if (!isNear(a, g, h, t)) return false;
        if (!stands(a, g, country, t) || !stands(b, h, country, t)) return false;
        int ra = rightOf(a, g, country, t);
        int rb = rightOf(b, h, country, t);
        if (!(ra < rb || (ra == rb && a < b))) return false;
        if (!stands(a, g, country, rb)) return false;
        if (!of(5, a, marks.get(b).owner, t).isEmpty()) return false;
        return alike(a, b);
    }

    private boolean canBe(int kind, int mark, int x, int day) {
        Paper latest = latestGoodsOrGive(mark, x, day);
        boolean keeps = latest != null && latest.kind() == 0;
        int markKind = marks.get(mark).kind;
        if (kind == 0) return !keeps && allGoods(mark, day).size() < 20;
        if (kind == 1) return of(1, mark, x, day).isEmpty() && !of(0, mark, NONE, day).isEmpty();
        if (!entered(mark, day)) return false;
        int end = termEnd(mark, day);
        if (kind == 2) return in(day, end - 365, end + 180);
        if (kind == 3 || kind == 6) return keeps;
        if (kind == 4) return !struck(mark, day);
        if (kind == 7) return markKind == 4 && !known(mark, day);
        if (kind == 8 && markKind != 3) return false;
        return of(kind, mark, x, day).isEmpty();
    }

    int paper(int kind, int mark, int x, int day) {
        int[] bounds = {360, 16, 1, 360, 1, 100, 360, 1, 100};
        if (papers.size() == 400 || !in(kind, 0, 8) || !isMark(mark) || !in(day, 0, 60000)) return NONE;
        if (!in(x, 0, bounds[kind] - 1) || day < about(2) || !canBe(kind, mark, x, day)) return NONE;
        papers.add(new Paper(kind, mark, x, day));
        return papers.size() - 1;
    }

    int oppose(int mark, int by, int day) {
        if (!isMark(mark) || !isMark(by) || !in(day, 0, 60000)) return NONE;
        boolean any = false;
        for (int c = 0; c < 16; c++) any |= clash(by, mark, c, day) != NONE;
        if (!any || day - firstDay(mark, day) > 90) return NONE;
        return paper(4, mark, 0, day);
    }

    int undo() {
        if (papers.isEmpty()) return NONE;
        papers.remove(papers.size() - 1);
        return papers.size();
    }

    int paperOf(int i, int what) {
        if (!in(i, 0, papers.size() - 1) || !in(what, 0, 3)) return NONE;
        Paper p = papers.get(i);
        return new int[] {p.kind(), p.mark(), p.x(), p.day()}[what];
    }

    private List<Integer> soundsOf(int mark) {
        List<Integer> word = marks.get(mark).word;
        List<Integer> l = new ArrayList<>();
        for (int i = 0; i < word.size(); i++) {
            int place = i == word.size() - 1 ? 26 : word.get(i + 1);
            int[] r = rows.get(word.get(i));
            if (r == null) l.add(40 + word.get(i));
            else if (place < r.length) l.add(r[place]);
        }
        return l;
    }

    int markOf(int mark, int what) {
        if (!isMark(mark) || !in(what, 0, 4)) return NONE;
        Sign s = marks.get(mark);
        return new int[] {s.kind, s.owner, s.word.size(), soundsOf(mark).size(), s.codes.size()}[what];
    }

    int soundOf(int mark, int k) {
        if (!isMark(mark)) return NONE;
        List<Integer> l = soundsOf(mark);
        return in(k, 0, l.size() - 1) ? l.get(k) : NONE;
    }

    private int costOf(List<Integer> a, List<Integer> b) {
        int[][] least = new int[a.size() + 1][b.size() + 1];
        for (int i = a.size(); i >= 0; i--) {
            for (int j = b.size(); j >= 0; j--) {
                if (i == a.size() && j == b.size()) continue;
                int m = Integer.MAX_VALUE;
                if (i < a.size()) m = Math.min(m, put(a.get(i)) + least[i + 1][j]);
                if (j < b.size()) m = Math.min(m, put(b.get(j)) + least[i][j + 1]);
                if (i < a.size() && j < b.size()) {
                    m = Math.min(m, change(a.get(i), b.get(j)) + least[i + 1][j + 1]);
                }
                least[i][j] = m;
            }
        }
        return least[0][0];
    }

    private int likeOfWords(int a, int b) {
        int n = Math.max(soundsOf(a).size(), soundsOf(b).size());
        if (n == 0) return 1000;
        return Math.max(0, 1000 - 100 * costOf(soundsOf(a), soundsOf(b)) / n);
    }

    private int likeOfPictures(int a, int b) {
        List<Integer> both = new ArrayList<>(marks.get(a).codes);
        both.retainAll(marks.get(b).codes);
        int n = Math.max(marks.get(a).codes.size(), marks.get(b).codes.size());
        return n == 0 ? 0 : 1000 * both.size() / n;
    }

    private int likeOf(int a, int b) {
        int k = Math.min(marks.get(a).kind, marks.get(b).kind);
        int l = Math.max(marks.get(a).kind, marks.get(b).kind);
        if (k == 1 && l <= 2) return likeOfPictures(a, b);
        if (k == 2 && l == 2) return Math.max(likeOfPictures(a, b), likeOfWords(a, b));
        if (k == 1 || l == 1) return 0;
        return likeOfWords(a, b);
    }

    int like(int a, int b, int what) {
        if (!isMark(a) || !isMark(b) || !in(what, 0, 1)) return NONE;
        return what == 0 ? likeOf(a, b) : costOf(soundsOf(a), soundsOf(b));
    }

    int right(int mark, int goods, int country, int day, int what) {
        if (!isMark(mark) || !in(goods, 0, 359) || !in(country, 0, 15) || !in(day, 0, 60000)) return NONE;
        if (what == 0) return has(mark, goods, day) ? since(mark, goods, day) : NONE;
        if (what == 1) return rightOf(mark, goods, country, day);
        if (what == 2) return stands(mark, goods, country, day) ? 1 : 0;
        return NONE;
    }

    int state(int mark, int day, int what) {
        if (!isMark(mark) || !in(day, 0, 60000) || !in(what, 0, 5)) return NONE;
        if (what <= 2 && !entered(mark, day)) return NONE;
        if (what == 0) return firstDay(mark, day);
        if (what == 1) return termEnd(mark, day);
        if (what == 2) return lapsed(mark, day) ? 1 : 0;
        if (what == 3) return struck(mark, day) ? 1 : 0;
        if (what == 4) return allGoods(mark, day).size();
        return of(1, mark, NONE, day).size();
    }

    int clash(int a, int b, int country, int day) {
        if (!isMark(a) || !isMark(b) || !in(country, 0, 15) || !in(day, 0, 60000)) return NONE;
        for (int g : allGoods(a, day)) {
            for (int h : allGoods(b, day)) {
                if (clashes(a, b, g, h, country, day)) return 360 * g + h;
            }
        }
        return NONE;
    }

    int first(int mark, int country, int day) {
        if (!isMark(mark) || !in(country, 0, 15) || !in(day, 0, 60000)) return NONE;
        int best = NONE;
        int earliest = Integer.MAX_VALUE;
        for (int a = 0; a < marks.size(); a++) {
            for (int g : allGoods(a, day)) {
                for (int h : allGoods(mark, day)) {
                    if (clashes(a, mark, g, h, country, day) && rightOf(a, g, country, day) < earliest) {
                        best = a;
                        earliest = rightOf(a, g, country, day);
                    }
                }
            }
        }
        return best;
    }

    int may(int person, int sign, int goods, int country, int day) {
        if (!in(person, 0, 99) || !isMark(sign) || !in(goods, 0, 359)) return NONE;
        if (!in(country, 0, 15) || !in(day, 0, 60000)) return NONE;
        int no = NONE;
        int earliest = Integer.MAX_VALUE;
        boolean own = false;
        boolean leave = false;
        boolean group = false;
        for (int a = 0; a < marks.size(); a++) {
            for (int g : allGoods(a, day)) {
                if (!stands(a, g, country, day) || !isNear(a, g, goods, day)) continue;
                if (a != sign && !alike(a, sign)) continue;
                boolean isOwn = marks.get(a).owner == person;
                boolean isLeave = !of(5, a, person, day).isEmpty();
                boolean isGroup = !of(8, a, person, day).isEmpty();
                own |= isOwn;
                leave |= isLeave;
                group |= isGroup;
                int r = rightOf(a, g, country, day);
                if (!isOwn && !isLeave && !isGroup && r < earliest) {
                    no = a;
                    earliest = r;
                }
            }
        }
        if (no != NONE) return 10 + no;
        return own ? 1 : leave ? 2 : group ? 3 : 0;
    }

    int watch(int i) {
        Paper enter = null;
        for (Paper p : papers) if (p.kind() == 1) enter = p;
        if (enter == null || i < 0) return NONE;
        List<Integer> found = new ArrayList<>();
        int b = enter.mark();
        int t = enter.day();
        for (int a = 0; a < marks.size(); a++) {
            boolean any = false;
            for (int g : allGoods(a, t)) {
                for (int h : allGoods(b, t)) {
                    any |= stands(a, g, enter.x(), t) && isNear(a, g, h, t);
                }
            }
            if (any && a != b && marks.get(a).owner != marks.get(b).owner && alike(a, b)) found.add(a);
        }
        return i < found.size() ? found.get(i) : NONE;
    }

    int about(int what) {
        switch (what) {
            case 0: return marks.size();
            case 1: return papers.size();
            case 2: return papers.isEmpty() ? 0 : papers.get(papers.size() - 1).day();
            case 3: return pairs.size();
            case 4: return likeLevel;
            case 5: return nearLevel;
            default: return NONE;
        }
    }
}
