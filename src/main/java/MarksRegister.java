import java.util.Arrays;

/**
 * A register of the marks by which traders tell their goods from others'. The promises that the
 * comments name by number are those of DOC.md.
 */
public final class MarksRegister {
    public static final int NONE = -1;

    private static final int MARKS = 120;
    private static final int PERSONS = 100;
    private static final int GOODS_IN_ALL = 360;
    private static final int COUNTRIES = 16;
    private static final int LAST_DAY = 60000;
    private static final int LETTERS = 26;
    private static final int LONGEST_WORD = 40;
    private static final int MOST_CODES = 12;
    private static final int CODES_IN_ALL = 32768;
    private static final int ALL_LIKE = 1000;
    private static final int DAYS_TO_OPPOSE = 90;

    private static final int DRAWN = 1;
    private static final int MIXED = 2;
    private static final int GROUP = 3;
    private static final int WELL_KNOWN = 4;
    private static final int KINDS_OF_MARKS = 5;

    private static final int GOODS = 0;
    private static final int ENTER = 1;
    private static final int RENEW = 2;
    private static final int GIVE = 3;
    private static final int STRIKE = 4;
    private static final int LEAVE = 5;
    private static final int USE = 6;
    private static final int KNOWN = 7;
    private static final int JOIN = 8;

    private static final int NO_CLAIM = 0;
    private static final int OWN = 1;
    private static final int BY_LEAVE = 2;
    private static final int BY_GROUP = 3;
    private static final int FORBIDDEN = 10;

    private final Sounds sounds = new Sounds();
    private final NearPairs pairs = new NearPairs();
    private final Mark[] marks = new Mark[MARKS];
    private final Papers papers = new Papers();
    private int markCount = 0;
    private int likeLevel = 700;
    private int nearLevel = 500;

    // Every call that asks by a day fills these anew, so that no call makes objects of its own.
    private final View elder = new View();
    private final View younger = new View();
    private final View past = new View();
    private final Clash found = new Clash();

    /** Promise 1. */
    public MarksRegister() {
    }

    /** Promise 2. */
    public boolean row(int letter, int places) {
        if (!below(letter, LETTERS) || places < NONE || places > Sounds.MOST_PLACES) {
            return false;
        }
        sounds.setPlaces(letter, places);
        return true;
    }

    /** Promise 3. */
    public boolean sound(int letter, int place, int s) {
        if (!below(letter, LETTERS) || !below(place, sounds.placesOf(letter))
                || !below(s, Sounds.SOUNDS_OF_ROWS)) {
            return false;
        }
        sounds.setPlace(letter, place, s);
        return true;
    }

    /** Promise 4. */
    public boolean cost(int a, int b, int c) {
        if (!below(a, Sounds.SOUNDS_IN_ALL) || a == b || c < 1 || c > 100) {
            return false;
        }
        if (b == NONE) {
            sounds.setPutCost(a, c);
            return true;
        }
        if (!below(b, Sounds.SOUNDS_IN_ALL)) {
            return false;
        }
        sounds.setChangeCost(a, b, c);
        return true;
    }

    /** Promise 5. */
    public boolean near(int g, int h, int v) {
        if (!below(g, GOODS_IN_ALL) || !below(h, GOODS_IN_ALL) || g == h || !below(v, ALL_LIKE)) {
            return false;
        }
        return pairs.tell(g, h, v);
    }

    /** Promise 6. */
    public boolean levels(int like, int near) {
        if (like < 1 || like > ALL_LIKE || near < 1 || near > ALL_LIKE) {
            return false;
        }
        likeLevel = like;
        nearLevel = near;
        return true;
    }

    /** Promise 7. */
    public int mark(int kind, int owner) {
        if (!below(kind, KINDS_OF_MARKS) || !below(owner, PERSONS) || markCount >= MARKS) {
            return NONE;
        }
        marks[markCount] = new Mark(kind, owner);
        markCount++;
        return markCount - 1;
    }

    /** Promise 8. */
    public int letter(int mark, int l) {
        Mark m = markAt(mark);
        if (m == null || !below(l, LETTERS) || papers.areOf(mark)) {
            return NONE;
        }
        return m.addLetter(l);
    }

    /** Promise 9. */
    public int code(int mark, int c) {
        Mark m = markAt(mark);
        if (m == null || !below(c, CODES_IN_ALL) || papers.areOf(mark)) {
            return NONE;
        }
        return m.addCode(c);
    }

    /** Promise 10. */
    public int paper(int kind, int mark, int x, int day) {
        Mark m = markAt(mark);
        if (m == null || !below(x, boundOfX(kind)) || !isDay(day) || !papers.take(day)) {
            return NONE;
        }
        elder.read(papers, mark, NONE, day);
        if (!canBe(kind, mark, x, day)) {
            return NONE;
        }
        return papers.add(kind, mark, x, day);
    }

    /** Promise 11. */
    public int oppose(int mark, int by, int day) {
        if (markAt(mark) == null || markAt(by) == null || !isDay(day)) {
            return NONE;
        }
        elder.read(papers, mark, NONE, day);
        if (!elder.isEntered() || day - elder.firstDay > DAYS_TO_OPPOSE) {
            return NONE;
        }
        for (int country = 0; country < COUNTRIES; country++) {
            findClash(by, mark, country, day);
            if (found.isThere()) {
                return paper(STRIKE, mark, 0, day);
            }
        }
        return NONE;
    }

    /** Promise 12. */
    public int undo() {
        return papers.takeBack();
    }

    /** Promise 13. */
    public int paperOf(int i, int what) {
        if (!below(i, papers.count)) {
            return NONE;
        }
        switch (what) {
            case 0: return papers.kinds[i];
            case 1: return papers.marks[i];
            case 2: return papers.xs[i];
            case 3: return papers.days[i];
            default: return NONE;
        }
    }

    /** Promise 14. */
    public int markOf(int mark, int what) {
        Mark m = markAt(mark);
        if (m == null) {
            return NONE;
        }
        switch (what) {
            case 0: return m.kind;
            case 1: return m.owner;
            case 2: return m.letterCount;
            case 3: return sounds.countOf(m);
            case 4: return m.codeCount;
            default: return NONE;
        }
    }

    /** Promise 15. */
    public int soundOf(int mark, int k) {
        Mark m = markAt(mark);
        return m == null ? NONE : sounds.at(m, k);
    }

    /** Promise 16. */
    public int like(int a, int b, int what) {
        Mark m = markAt(a);
        Mark n = markAt(b);
        if (m == null || n == null) {
            return NONE;
        }
        switch (what) {
            case 0: return likeOf(m, n);
            case 1: return sounds.costOf(m, n);
            default: return NONE;
        }
    }

    /** Promise 17. */
    public int right(int mark, int goods, int country, int day, int what) {
        if (markAt(mark) == null || !below(goods, GOODS_IN_ALL) || !below(country, COUNTRIES)
                || !isDay(day)) {
            return NONE;
        }
        elder.read(papers, mark, country, day);
        int k = elder.find(goods);
        switch (what) {
            case 0: return elder.sinceAt(k);
            case 1: return elder.rightAt(k);
            case 2: return elder.standsAt(k) ? 1 : 0;
            default: return NONE;
        }
    }

    /** Promise 18. */
    public int state(int mark, int day, int what) {
        if (markAt(mark) == null || !isDay(day)) {
            return NONE;
        }
        elder.read(papers, mark, NONE, day);
        switch (what) {
            case 0: return elder.firstDay;
            case 1: return elder.termEnd();
            case 2: return !elder.isEntered() ? NONE : elder.isLapsed() ? 1 : 0;
            case 3: return elder.isStruck ? 1 : 0;
            case 4: return elder.count;
            case 5: return elder.countries;
            default: return NONE;
        }
    }

    /** Promise 19. */
    public int clash(int a, int b, int country, int day) {
        if (markAt(a) == null || markAt(b) == null || !below(country, COUNTRIES) || !isDay(day)) {
            return NONE;
        }
        findClash(a, b, country, day);
        return found.pair;
    }

    /** Promise 20. */
    public int first(int mark, int country, int day) {
        if (markAt(mark) == null || !below(country, COUNTRIES) || !isDay(day)) {
            return NONE;
        }
        int best = NONE;
        int earliest = NONE;
        for (int a = 0; a < markCount; a++) {
            findClash(a, mark, country, day);
            if (found.isThere() && (best == NONE || found.earliest < earliest)) {
                best = a;
                earliest = found.earliest;
            }
        }
        return best;
    }

    /** Promise 21. */
    public int may(int person, int sign, int goods, int country, int day) {
        if (!below(person, PERSONS) || markAt(sign) == null || !below(goods, GOODS_IN_ALL)
                || !below(country, COUNTRIES) || !isDay(day)) {
            return NONE;
        }
        int claim = NO_CLAIM;
        int blocker = NONE;
        int earliest = NONE;
        for (int a = 0; a < markCount; a++) {
            elder.read(papers, a, country, day);
            int right = earliestNear(goods);
            if (right == NONE || (a != sign && !areAlike(a, sign))) {
                continue;
            }
            int his = claimOf(person, a, day);
            if (his == NO_CLAIM) {
                if (blocker == NONE || right < earliest) {
                    blocker = a;
                    earliest = right;
                }
            } else if (claim == NO_CLAIM || his < claim) {
                claim = his;
            }
        }
        return blocker == NONE ? claim : FORBIDDEN + blocker;
    }

    /** Promise 22. */
    public int watch(int i) {
        int p = papers.latest(ENTER);
        if (i < 0 || i >= markCount || p == NONE) {
            return NONE;
        }
        int entered = papers.marks[p];
        int country = papers.xs[p];
        int day = papers.days[p];
        younger.read(papers, entered, country, day);
        int left = i;
        for (int a = 0; a < markCount; a++) {
            if (haveOneOwner(a, entered)) {
                continue;
            }
            elder.read(papers, a, country, day);
            if (standsNearYounger() && areAlike(a, entered)) {
                if (left == 0) {
                    return a;
                }
                left--;
            }
        }
        return NONE;
    }

    /** Promise 23. */
    public int about(int what) {
        switch (what) {
            case 0: return markCount;
            case 1: return papers.count;
            case 2: return papers.latestDay();
            case 3: return pairs.count;
            case 4: return likeLevel;
            case 5: return nearLevel;
            default: return NONE;
        }
    }

    private static boolean below(int n, int bound) {
        return n >= 0 && n < bound;
    }

    private static boolean isDay(int day) {
        return day >= 0 && day <= LAST_DAY;
    }

    private Mark markAt(int n) {
        return below(n, markCount) ? marks[n] : null;
    }

    /** How many values x of a paper may have; 0 where there is no such kind, so that none fits. */
    private static int boundOfX(int kind) {
        switch (kind) {
            case GOODS: case GIVE: case USE: return GOODS_IN_ALL;
            case ENTER: return COUNTRIES;
            case LEAVE: case JOIN: return PERSONS;
            case RENEW: case STRIKE: case KNOWN: return 1;
            default: return 0;
        }
    }

    /** Whether the mark that elder shows by the day may have such a paper. */
    private boolean canBe(int kind, int mark, int x, int day) {
        if (kind != GOODS && kind != ENTER && !elder.isEntered()) {
            return false;
        }
        switch (kind) {
            case GOODS: return elder.count < View.MOST_GOODS && !elder.keeps(x);
            case ENTER: return elder.hadGoods && !papers.tell(ENTER, mark, x, day);
            case RENEW: return elder.isTimeToRenew();
            case GIVE: case USE: return elder.keeps(x);
            case STRIKE: return !elder.isStruck;
            case LEAVE: return !papers.tell(LEAVE, mark, x, day);
            case KNOWN: return isOfKind(mark, WELL_KNOWN) && !elder.isKnown;
            case JOIN: return isOfKind(mark, GROUP) && !papers.tell(JOIN, mark, x, day);
            default: return false;
        }
    }

    private boolean isOfKind(int mark, int kind) {
        Mark m = markAt(mark);
        return m != null && m.kind == kind;
    }

    private boolean haveOneOwner(int a, int b) {
        Mark m = markAt(a);
        Mark n = markAt(b);
        return m != null && n != null && m.owner == n.owner;
    }

    private int likeOf(Mark m, Mark n) {
        if (m.hasPicture() && n.hasPicture()) {
            int pictures = m.likeOfPictures(n);
            boolean bothMixed = m.kind == MIXED && n.kind == MIXED;
            return bothMixed ? Math.max(pictures, sounds.likeOf(m, n)) : pictures;
        }
        return m.kind == DRAWN || n.kind == DRAWN ? 0 : sounds.likeOf(m, n);
    }

    private boolean areAlike(int a, int b) {
        Mark m = markAt(a);
        Mark n = markAt(b);
        return m != null && n != null && likeOf(m, n) >= likeLevel;
    }

    /** Near as with CLASHES: g is of the mark that elder shows, whose fame reaches all goods. */
    private boolean isNear(int g, int h) {
        return elder.isKnown || pairs.nearOf(g, h) >= nearLevel;
    }

    /** The earliest RIGHT of those goods near to h for which the mark that elder shows STANDS. */
    private int earliestNear(int h) {
        int earliest = NONE;
        for (int k = 0; k < elder.count; k++) {
            if (elder.standsAt(k) && isNear(elder.goods[k], h)) {
                int right = elder.rightAt(k);
                if (earliest == NONE || right < earliest) {
                    earliest = right;
                }
            }
        }
        return earliest;
    }

    private boolean standsNearYounger() {
        for (int k = 0; k < younger.count; k++) {
            if (earliestNear(younger.goods[k]) != NONE) {
                return true;
            }
        }
        return false;
    }

    private int claimOf(int person, int mark, int day) {
        Mark m = markAt(mark);
        if (m != null && m.owner == person) {
            return OWN;
        }
        if (papers.tell(LEAVE, mark, person, day)) {
            return BY_LEAVE;
        }
        return papers.tell(JOIN, mark, person, day) ? BY_GROUP : NO_CLAIM;
    }

    /** Fills found with the goods over which a CLASHES with b; what is dear to ask comes last. */
    private void findClash(int a, int b, int country, int day) {
        found.clear();
        Mark n = markAt(b);
        if (n == null || haveOneOwner(a, b)) {
            return;
        }
        elder.read(papers, a, country, day);
        if (!elder.standsForAny()) {
            return;
        }
        younger.read(papers, b, country, day);
        if (!younger.standsForAny() || papers.tell(LEAVE, a, n.owner, day) || !areAlike(a, b)) {
            return;
        }
        for (int k = 0; k < younger.count; k++) {
            if (younger.standsAt(k)) {
                findClashOver(k, a, b, country);
            }
        }
    }

    private void findClashOver(int k, int a, int b, int country) {
        int h = younger.goods[k];
        int rightOfB = younger.rightAt(k);
        past.read(papers, a, country, rightOfB);
        for (int j = 0; j < elder.count; j++) {
            int g = elder.goods[j];
            int rightOfA = elder.rightAt(j);
            boolean isAhead = rightOfA < rightOfB || (rightOfA == rightOfB && a < b);
            if (isAhead && elder.standsAt(j) && isNear(g, h) && past.standsAt(past.find(g))) {
                found.add(g, h, rightOfA);
            }
        }
    }

    /** ROWS and COSTS, and what words sound like by them. */
    private static final class Sounds {
        static final int MOST_PLACES = 27;
        static final int WORD_END = 26;
        static final int SOUNDS_OF_ROWS = 40;
        static final int SOUNDS_IN_ALL = 66;
        static final int COST_AT_FIRST = 10;

        private final int[] places = new int[LETTERS];
        private final int[] rows = new int[LETTERS * MOST_PLACES];
        private final int[] putCosts = new int[SOUNDS_IN_ALL];
        private final int[] changeCosts = new int[SOUNDS_IN_ALL * SOUNDS_IN_ALL];
        private final int[] left = new int[LONGEST_WORD];
        private final int[] right = new int[LONGEST_WORD];
        private final int[] sums = new int[LONGEST_WORD + 1];

        Sounds() {
            Arrays.fill(places, NONE);
            Arrays.fill(putCosts, COST_AT_FIRST);
            Arrays.fill(changeCosts, COST_AT_FIRST);
            for (int s = 0; s < SOUNDS_IN_ALL; s++) {
                changeCosts[s * SOUNDS_IN_ALL + s] = 0;
            }
        }

        int placesOf(int letter) {
            return places[letter];
        }

        void setPlaces(int letter, int count) {
            places[letter] = count;
            for (int p = 0; p < MOST_PLACES; p++) {
                rows[letter * MOST_PLACES + p] = 0;
            }
        }

        void setPlace(int letter, int place, int s) {
            rows[letter * MOST_PLACES + place] = s;
        }

        void setPutCost(int a, int c) {
            putCosts[a] = c;
        }

        void setChangeCost(int a, int b, int c) {
            changeCosts[a * SOUNDS_IN_ALL + b] = c;
            changeCosts[b * SOUNDS_IN_ALL + a] = c;
        }

        int countOf(Mark m) {
            return spell(m, left);
        }

        int at(Mark m, int k) {
            return below(k, spell(m, left)) ? left[k] : NONE;
        }

        int costOf(Mark m, Mark n) {
            return leastSum(spell(m, left), spell(n, right));
        }

        int likeOf(Mark m, Mark n) {
            int leftCount = spell(m, left);
            int rightCount = spell(n, right);
            int most = Math.max(leftCount, rightCount);
            if (most == 0) {
                return ALL_LIKE;
            }
            return Math.max(0, ALL_LIKE - 100 * leastSum(leftCount, rightCount) / most);
        }

        private int spell(Mark m, int[] into) {
            int count = 0;
            for (int i = 0; i < m.letterCount; i++) {
                int next = i + 1 < m.letterCount ? m.letters[i + 1] : WORD_END;
                int s = heard(m.letters[i], next);
                if (s != NONE) {
                    into[count] = s;
                    count++;
                }
            }
            return count;
        }

        private int heard(int letter, int next) {
            if (places[letter] == NONE) {
                return SOUNDS_OF_ROWS + letter;
            }
            return next < places[letter] ? rows[letter * MOST_PLACES + next] : NONE;
        }

        /** One row of the table of least sums suffices; corner holds what it overwrites. */
        private int leastSum(int leftCount, int rightCount) {
            sums[0] = 0;
            for (int j = 0; j < rightCount; j++) {
                sums[j + 1] = sums[j] + putCosts[right[j]];
            }
            for (int i = 0; i < leftCount; i++) {
                int s = left[i];
                int corner = sums[0];
                sums[0] += putCosts[s];
                for (int j = 0; j < rightCount; j++) {
                    int changed = corner + changeCosts[s * SOUNDS_IN_ALL + right[j]];
                    int struck = sums[j + 1] + putCosts[s];
                    int putIn = sums[j] + putCosts[right[j]];
                    corner = sums[j + 1];
                    sums[j + 1] = Math.min(changed, Math.min(struck, putIn));
                }
            }
            return sums[rightCount];
        }
    }

    /** NEAR of goods: the told pairs above 0 alone, for a table of all would fill the room. */
    private static final class NearPairs {
        static final int MOST = 100;

        private final int[] ones = new int[MOST];
        private final int[] others = new int[MOST];
        private final int[] values = new int[MOST];
        private int count = 0;

        int nearOf(int g, int h) {
            if (g == h) {
                return ALL_LIKE;
            }
            int i = find(g, h);
            return i == NONE ? 0 : values[i];
        }

        boolean tell(int g, int h, int v) {
            int i = find(g, h);
            if (v == 0) {
                forget(i);
                return true;
            }
            if (i == NONE) {
                return append(g, h, v);
            }
            values[i] = v;
            return true;
        }

        private int find(int g, int h) {
            for (int i = 0; i < count; i++) {
                if ((ones[i] == g && others[i] == h) || (ones[i] == h && others[i] == g)) {
                    return i;
                }
            }
            return NONE;
        }

        private boolean append(int g, int h, int v) {
            if (count >= MOST) {
                return false;
            }
            ones[count] = g;
            others[count] = h;
            values[count] = v;
            count++;
            return true;
        }

        private void forget(int i) {
            if (i == NONE) {
                return;
            }
            count--;
            ones[i] = ones[count];
            others[i] = others[count];
            values[i] = values[count];
        }
    }

    /** A mark's KIND, OWNER, word and picture. */
    private static final class Mark {
        final int kind;
        final int owner;
        final int[] letters = new int[LONGEST_WORD];
        final int[] codes;
        int letterCount = 0;
        int codeCount = 0;

        Mark(int kind, int owner) {
            this.kind = kind;
            this.owner = owner;
            this.codes = new int[kind == DRAWN || kind == MIXED ? MOST_CODES : 0];
        }

        boolean hasPicture() {
            return kind == DRAWN || kind == MIXED;
        }

        int addLetter(int l) {
            if (letterCount >= letters.length) {
                return NONE;
            }
            letters[letterCount] = l;
            letterCount++;
            return letterCount;
        }

        int addCode(int c) {
            if (codeCount >= codes.length || hasCode(c)) {
                return NONE;
            }
            codes[codeCount] = c;
            codeCount++;
            return codeCount;
        }

        int likeOfPictures(Mark other) {
            int most = Math.max(codeCount, other.codeCount);
            if (most == 0) {
                return 0;
            }
            int both = 0;
            for (int i = 0; i < codeCount; i++) {
                if (other.hasCode(codes[i])) {
                    both++;
                }
            }
            return ALL_LIKE * both / most;
        }

        private boolean hasCode(int c) {
            for (int i = 0; i < codeCount; i++) {
                if (codes[i] == c) {
                    return true;
                }
            }
            return false;
        }
    }

    /** The papers in the order in which they came, so that their days never fall. */
    private static final class Papers {
        static final int MOST = 400;

        final int[] kinds = new int[MOST];
        final int[] marks = new int[MOST];
        final int[] xs = new int[MOST];
        final int[] days = new int[MOST];
        int count = 0;

        int latestDay() {
            return count == 0 ? 0 : days[count - 1];
        }

        boolean take(int day) {
            return count < MOST && day >= latestDay();
        }

        int add(int kind, int mark, int x, int day) {
            if (count >= MOST) {
                return NONE;
            }
            kinds[count] = kind;
            marks[count] = mark;
            xs[count] = x;
            days[count] = day;
            count++;
            return count - 1;
        }

        int takeBack() {
            if (count == 0) {
                return NONE;
            }
            count--;
            return count;
        }

        boolean areOf(int mark) {
            for (int i = 0; i < count; i++) {
                if (marks[i] == mark) {
                    return true;
                }
            }
            return false;
        }

        /** Whether there is such a paper by the day. */
        boolean tell(int kind, int mark, int x, int day) {
            for (int i = 0; i < count && days[i] <= day; i++) {
                if (kinds[i] == kind && marks[i] == mark && xs[i] == x) {
                    return true;
                }
            }
            return false;
        }

        int latest(int kind) {
            for (int i = count - 1; i >= 0; i--) {
                if (kinds[i] == kind) {
                    return i;
                }
            }
            return NONE;
        }
    }

    /** A mark as its papers show it in a country by a day, with the goods that it HAS then. */
    private static final class View {
        // A paper GOODS is refused to a mark that HAS so many, so no day ever shows more.
        static final int MOST_GOODS = 20;
        static final int DAYS_OF_TERM = 3650;
        static final int DAYS_BEHIND_TERM = 180;
        static final int DAYS_AHEAD_OF_TERM_END = 365;
        static final int DAYS_OF_PRIORITY = 182;
        static final int DAYS_UNUSED = 1825;

        private int day;
        int firstDay;
        private int enterDay;
        int countries;
        private int renews;
        boolean isStruck;
        boolean isKnown;
        boolean hadGoods;
        int count;
        final int[] goods = new int[MOST_GOODS];
        private final int[] since = new int[MOST_GOODS];
        private final int[] used = new int[MOST_GOODS];
        private final boolean[] given = new boolean[MOST_GOODS];

        void read(Papers papers, int mark, int country, int byDay) {
            clear(byDay);
            for (int i = 0; i < papers.count && papers.days[i] <= byDay; i++) {
                if (papers.marks[i] == mark) {
                    readPaper(papers.kinds[i], papers.xs[i], papers.days[i], country);
                }
            }
        }

        boolean isEntered() {
            return firstDay != NONE;
        }

        int termEnd() {
            return isEntered() ? firstDay + DAYS_OF_TERM * (1 + renews) : NONE;
        }

        boolean isLapsed() {
            return isEntered() && day > termEnd() + DAYS_BEHIND_TERM;
        }

        boolean isTimeToRenew() {
            return day >= termEnd() - DAYS_AHEAD_OF_TERM_END && day <= termEnd() + DAYS_BEHIND_TERM;
        }

        /** Where the goods stand among those that it HAS. */
        int find(int g) {
            for (int k = 0; k < count; k++) {
                if (goods[k] == g) {
                    return k;
                }
            }
            return NONE;
        }

        /** Whether the latest paper of the goods is GOODS: of one day, HAS may outlive that. */
        boolean keeps(int g) {
            int k = find(g);
            return k != NONE && !given[k];
        }

        int sinceAt(int k) {
            return below(k, count) ? since[k] : NONE;
        }

        int rightAt(int k) {
            if (!below(k, count) || enterDay == NONE) {
                return NONE;
            }
            boolean fromFirst = enterDay - firstDay <= DAYS_OF_PRIORITY && since[k] <= firstDay;
            return Math.max(fromFirst ? firstDay : enterDay, since[k]);
        }

        boolean standsAt(int k) {
            int right = rightAt(k);
            if (right == NONE || isStruck || isLapsed()) {
                return false;
            }
            return day - Math.max(right, used[k]) <= DAYS_UNUSED;
        }

        boolean standsForAny() {
            for (int k = 0; k < count; k++) {
                if (standsAt(k)) {
                    return true;
                }
            }
            return false;
        }

        private void clear(int byDay) {
            day = byDay;
            firstDay = NONE;
            enterDay = NONE;
            countries = 0;
            renews = 0;
            isStruck = false;
            isKnown = false;
            hadGoods = false;
            count = 0;
        }

        private void readPaper(int kind, int x, int paperDay, int country) {
            switch (kind) {
                case GOODS: readGoods(x, paperDay); break;
                case ENTER: readEnter(x, paperDay, country); break;
                case RENEW: renews++; break;
                case GIVE: readGive(x, paperDay); break;
                case STRIKE: isStruck = true; break;
                case USE: readUse(x, paperDay); break;
                case KNOWN: isKnown = true; break;
                default: break;
            }
        }

        private void readEnter(int x, int paperDay, int country) {
            countries++;
            if (firstDay == NONE) {
                firstDay = paperDay;
            }
            if (x == country) {
                enterDay = paperDay;
            }
        }

        private void readGoods(int g, int paperDay) {
            hadGoods = true;
            int k = find(g);
            if (k == NONE) {
                if (count >= MOST_GOODS) {
                    return;
                }
                k = count;
                count++;
                goods[k] = g;
                used[k] = NONE;
            }
            since[k] = paperDay;
            given[k] = false;
        }

        private void readGive(int g, int paperDay) {
            int k = find(g);
            if (k == NONE) {
                return;
            }
            if (paperDay == day) {
                given[k] = true;
                return;
            }
            count--;
            goods[k] = goods[count];
            since[k] = since[count];
            used[k] = used[count];
            given[k] = given[count];
        }

        private void readUse(int g, int paperDay) {
            int k = find(g);
            if (k != NONE) {
                used[k] = paperDay;
            }
        }
    }

    /** Over which goods one mark CLASHES with another: the least pair and the earliest RIGHT. */
    private static final class Clash {
        int pair;
        int earliest;

        void clear() {
            pair = NONE;
            earliest = NONE;
        }

        boolean isThere() {
            return pair != NONE;
        }

        void add(int g, int h, int right) {
            int here = GOODS_IN_ALL * g + h;
            if (pair == NONE || here < pair) {
                pair = here;
            }
            if (earliest == NONE || right < earliest) {
                earliest = right;
            }
        }
    }
}
