import java.util.ArrayList;
import java.util.List;
import java.util.TreeSet;
import java.util.stream.IntStream;

/**
 * What to ask an object behind a story so that a change of what it holds shows: questions about what
 * the story tells of, and runs of calls that bring to light what no question shows alone (ROWS, COSTS, NEAR, CODES).
 */
final class Probes {
    private static final int MOST_CALLS = 512;

    private final Story story;
    private final List<Call> questions = new ArrayList<>();
    private final List<List<Call>> runs = new ArrayList<>();

    private Probes(Story story) {
        this.story = story;
    }

    /** Runs of calls, each for an object of its own. */
    static List<List<Call>> of(Story story) {
        Probes p = new Probes(story);
        p.askAboutAll();
        p.askAboutMarks();
        p.askByDays();
        p.cut();
        p.revealWords();
        p.revealNearness();
        p.revealPictures();
        return p.runs;
    }

    private void ask(String name, int... with) {
        questions.add(new Call(name, with));
    }

    /** At most so many: the first ones and the last two. */
    private static int[] some(TreeSet<Integer> of, int most) {
        int[] all = of.stream().mapToInt(i -> i).toArray();
        return IntStream.range(0, all.length).filter(i -> i < most - 2 || i >= all.length - 2).map(i -> all[i]).toArray();
    }

    private int[] someMarks() {
        TreeSet<Integer> all = new TreeSet<>();
        IntStream.range(0, story.count("mark")).forEach(all::add);
        return some(all, 4);
    }

    /** What stands at a place of the papers of some kinds. */
    private TreeSet<Integer> inPapers(int place, int... kinds) {
        TreeSet<Integer> all = new TreeSet<>();
        for (Call c : story.calls("paper")) {
            if (IntStream.of(kinds).anyMatch(k -> c.is("paper", k))) {
                all.add(c.with()[place]);
            }
        }
        return all;
    }

    private TreeSet<Integer> days() {
        TreeSet<Integer> days = inPapers(3, 0, 1, 2, 3, 4, 5, 6, 7, 8);
        if (!days.isEmpty() && days.last() < 60000) {
            days.add(days.last() + 1);
        }
        return days;
    }

    private void askAboutAll() {
        for (int what = 0; what < 6; what++) {
            ask("about", what);
        }
        int papers = story.count("paper") + story.count("oppose");
        for (int i = 0; i <= papers; i++) {
            for (int what = 0; what < 4 && (i < 4 || i > papers - 3); what++) {
                ask("paperOf", i, what);
            }
        }
        for (int i = 0; i < 3; i++) {
            ask("watch", i);
        }
    }

    private void askAboutMarks() {
        for (int m : someMarks()) {
            for (int what = 0; what < 5; what++) {
                ask("markOf", m, what);
            }
            for (int k : new int[] {0, 1, 2, 39}) {
                ask("soundOf", m, k);
            }
            for (int n : someMarks()) {
                ask("like", m, n, 0);
                ask("like", m, n, 1);
            }
        }
    }

    private void askByDays() {
        int[] goods = some(inPapers(2, 0), 3);
        int[] countries = some(inPapers(2, 1), 2);
        TreeSet<Integer> persons = inPapers(2, 5, 8);
        persons.add(0);
        persons.add(98);
        for (int m : someMarks()) {
            for (int day : some(days(), 4)) {
                for (int what = 0; what < 6; what++) {
                    ask("state", m, day, what);
                }
                for (int country : countries) {
                    askInCountry(m, country, day, goods, some(persons, 3));
                }
            }
        }
    }

    private void askInCountry(int m, int country, int day, int[] goods, int[] persons) {
        ask("first", m, country, day);
        for (int n : someMarks()) {
            ask("clash", m, n, country, day);
        }
        for (int g : goods) {
            for (int what = 0; what < 3; what++) {
                ask("right", m, g, country, day, what);
            }
            for (int p : persons) {
                ask("may", p, m, g, country, day);
            }
        }
    }

    private void cut() {
        int most = MOST_CALLS - story.size() - 1;
        for (int from = 0; from < questions.size() && most > 0; from += most) {
            runs.add(questions.subList(from, Math.min(questions.size(), from + most)));
        }
    }

    private void addRun(Story calls) {
        List<Call> run = new ArrayList<>();
        calls.each(run::add);
        if (story.size() + 1 + run.size() <= MOST_CALLS) {
            runs.add(run);
        }
    }

    /** Further marks spelled with the first and the last letters show their ROWS and COSTS. */
    private void revealWords() {
        int next = story.count("mark");
        String[] words = {"", "a", "b", "z", "aabbzzbaza"};
        if (next + words.length > 120) {
            return;
        }
        Story s = new Story();
        for (int i = 0; i < words.length; i++) {
            s = s.and("mark 0 90");
            for (char c : words[i].toCharArray()) {
                s = s.and("letter " + (next + i) + " " + (c - 'a'));
            }
            for (int k = 0; k < words[i].length(); k++) {
                s = s.and("soundOf " + (next + i) + " " + k);
            }
            for (int k = 0; k < i; k++) {
                s = s.and("like " + (next + i) + " " + (next + k) + " 1");
            }
        }
        addRun(s);
    }

    /** Two further marks for told goods, asked at the told LEVEL and behind it, show NEAR to the number. */
    private void revealNearness() {
        List<Call> told = story.calls("near");
        int next = story.count("mark");
        int papers = story.count("paper");
        int day = papers == 0 ? 0 : days().stream().filter(d -> d < 60001).max(Integer::compare).orElse(0);
        for (int i = 0; i < told.size(); i++) {
            if ((i >= 2 && i < told.size() - 2) || next + 2 > 120 || papers + 4 > 400) {
                continue;
            }
            int[] pair = told.get(i).with();
            Story s = new Story().and("mark 0 91; mark 0 92").enters(next, pair[0], 15, day)
                .enters(next + 1, pair[1], 15, day);
            for (int v : new int[] {pair[2], pair[2] + 1}) {
                s = s.and("levels 1 " + v + "; clash " + next + " " + (next + 1) + " 15 " + day);
            }
            addRun(s);
        }
    }

    /** A further mark with the told CODES of another is wholly like it only while that has them all. */
    private void revealPictures() {
        int next = story.count("mark");
        for (int m : someMarks()) {
            Story s = new Story().and("mark 1 93");
            for (Call c : story.calls("code")) {
                s = c.with()[0] == m ? s.and("code " + next + " " + c.with()[1]) : s;
            }
            if (s.size() > 1 && next < 120) {
                addRun(s.and("like " + m + " " + next + " 0"));
            }
        }
    }
}
