/** The sentences of promises 1 to 9, 14 to 16 and of Terms I that name a boundary, each with a test of its own. */
public final class BoundsOfWordsTest {
    private static final String ALL_LETTERS = "abcdefghijklmnopqrstuvwxyz";
    private static final Story NEW = new Story();
    private static final Sentences SAY = new Sentences();

    private static Story words(String... words) {
        Story s = NEW;
        for (int i = 0; i < words.length; i++) {
            s = s.mark(0, i, words[i]);
        }
        return s;
    }

    private static String letters(int count) {
        return "a".repeat(count);
    }

    private static Story manyMarks(int count) {
        Story s = NEW;
        for (int i = 0; i < count; i++) {
            s = s.and("mark " + i % 5 + " " + i % 100);
        }
        return s;
    }

    // Promise 1

    private static void aNewObjectHasNoMarks() {
        SAY.is("no marks", NEW, "about 0", 0);
        SAY.refused("no marks", NEW, "letter 0 0", "code 0 0", "paper 0 0 0 0", "paper 1 0 0 0", "oppose 0 0 0",
            "soundOf 0 0", "like 0 0 0", "like 0 0 1", "clash 0 0 0 0", "first 0 0 0", "may 0 0 0 0 0");
        for (int what = 0; what < 6; what++) {
            SAY.refused("no marks", NEW, "markOf 0 " + what, "state 0 0 " + what, "right 0 0 0 0 " + what);
        }
    }

    private static void aNewObjectHasNoRows() {
        Asked asked = SAY.of(words(ALL_LETTERS));
        for (int l = 0; l < 26; l++) {
            asked.is("no ROWS", "soundOf 0 " + l, 40 + l);
            asked.is("no ROWS, no places", "sound " + l + " 0 1", 0);
            asked.is("no ROWS, no end", "sound " + l + " 26 1", 0);
        }
    }

    private static void aNewObjectHasNoPapers() {
        SAY.is("no papers", NEW, "about 1", 0);
        SAY.is("no papers, no DAY", NEW, "about 2", 0);
        SAY.refused("no papers", NEW, "undo", "watch 0", "paperOf 0 0", "paperOf 0 1", "paperOf 0 2", "paperOf 0 3");
    }

    /** Letters a and b are given each of the 66 sounds: those of ROWS, and beside them the bare letters'. */
    private static void costsAtFirst() {
        for (int s = 0; s < 40; s++) {
            Asked asked = SAY.of(words("a", "b", "", "z").and("row 0 27; row 1 27; sound 0 26 " + s));
            asked.is("COSTS at first: struck", "like 0 2 1", 10);
            asked.is("COSTS at first: put in", "like 2 0 1", 10);
            asked.is("COSTS at first: into a letter's", "like 0 3 1", 10);
            for (int t = 0; t < 40; t++) {
                asked.is("a sound", "sound 1 26 " + t, 1);
                asked.is("COSTS at first: " + s + " into " + t, "like 0 1 1", s == t ? 0 : 10);
            }
        }
        for (int l = 0; l < 26; l++) {
            Story one = words("", ALL_LETTERS.substring(l, l + 1));
            SAY.is("COSTS at first: put in", one, "like 0 1 1", 10);
            for (int k = 0; k < 26; k++) {
                Story two = one.mark(0, 3, ALL_LETTERS.substring(k, k + 1));
                SAY.is("COSTS at first: letters", two, "like 1 2 1", k == l ? 0 : 10);
            }
        }
    }

    private static Story twoForGoods(int from, int with, int step, int level) {
        StringBuilder b = new StringBuilder("mark 0 0; mark 0 1; levels 700 " + level);
        for (int m = 0; m < 2; m++) {
            for (int i = 0; i < 20; i += step) {
                b.append("; paper 0 ").append(m).append(' ').append((m == 0 ? from : with) + i).append(" 0");
            }
            b.append("; paper 1 ").append(m).append(" 0 0");
        }
        return NEW.and(b.toString());
    }

    /** At the lowest LEVEL any told nearness would do. */
    private static void nearAtFirst() {
        for (int from = 0; from < 360; from += 20) {
            for (int with = 0; with < 360; with += 20) {
                long due = from == with ? 361L * from : -1;
                SAY.is("NEAR at first", twoForGoods(from, with, 1, 1), "clash 0 1 0 0", due);
            }
            SAY.is("NEAR at first", twoForGoods(from, from + 1, 2, 1), "clash 0 1 0 0", -1);
            SAY.is("NEAR of the same is 1000", twoForGoods(from, from, 2, 1000), "clash 0 1 0 0", 361L * from);
        }
    }

    private static void levelsAtFirst() {
        SAY.of(NEW).is("LEVELS at first", "about 4", 700).is("LEVELS at first", "about 5", 500)
            .is("pairs at first", "about 3", 0);
        Story alike = words("aaaaaaaaaa", "aaaaaaabbb").enters(0, 8, 0, 1).enters(1, 8, 0, 2);
        SAY.of(alike).is("LIKE", "like 0 1 0", 700).is("ALIKE from 700 on", "clash 0 1 0 2", 2888);
        Story unlike = NEW.mark(0, 0, letters(40)).mark(0, 1, letters(29) + "bbbbbbbbbbb").and("cost 40 41 11")
            .enters(0, 8, 0, 1).enters(1, 8, 0, 2);
        SAY.of(unlike).is("LIKE", "like 0 1 0", 698).is("not ALIKE below 700", "clash 0 1 0 2", -1);
        Story near = words("a", "a").enters(0, 8, 0, 1).enters(1, 9, 0, 2);
        SAY.is("near from 500 on", near.and("near 8 9 500"), "clash 0 1 0 2", 2889);
        SAY.is("not near below 500", near.and("near 8 9 499"), "clash 0 1 0 2", -1);
    }

    // Promise 2

    private static void bordersOfRows() {
        SAY.edges("a letter", NEW, "row % 3", 0, 25);
        SAY.edges("a letter, NONE", NEW, "row % -1", 0, 25);
        SAY.edges("places", NEW, "row 0 %", -1, 27);
        Story rows = words("abz").and("row 0 2; row 25 27; sound 0 1 7; sound 25 26 8");
        SAY.edges("a letter", rows, "row % 0", 0, 25);
        SAY.edges("places", rows, "row 0 %", -1, 27);
        SAY.edges("places", rows, "row 25 %", -1, 27);
        SAY.refused("neither letter nor places", rows, "row -1 -2", "row 26 28", "row MIN MIN", "row MAX MAX");
    }

    /** "so many places", "all sound 0": every number of places, every letter that may come next, and the end. */
    private static void rowsOfSoManyPlaces() {
        for (int places = 0; places <= 27; places++) {
            Story row = NEW.and("row 0 27");
            for (int p = 0; p < 27; p++) {
                row = row.and("sound 0 " + p + " 39");
            }
            row = row.and("row 0 " + places);
            for (int next = 1; next < 26; next++) {
                boolean isHeard = next < places;
                Story s = row.mark(0, 0, "a" + (char) ('a' + next));
                SAY.is("places 0 .. 25", s, "soundOf 0 0", isHeard ? 0 : 40 + next);
                SAY.is("places 0 .. 25", s, "markOf 0 3", isHeard ? 2 : 1);
            }
            SAY.is("the end is place 26", row.mark(0, 0, "a"), "soundOf 0 0", places == 27 ? 0 : -1);
            SAY.is("the end is place 26", row.mark(0, 0, "a"), "markOf 0 3", places == 27 ? 1 : 0);
            int heard = (places > 0 ? 1 : 0) + (places == 27 ? 1 : 0);
            SAY.is("place 0 is a", row.mark(0, 0, "aa"), "markOf 0 3", heard);
            SAY.is("place 0 is sound 0", row.mark(0, 0, "aa"), "soundOf 0 0", heard > 0 ? 0 : -1);
        }
    }

    private static void rowsTakenAway() {
        Story row = words("ab").and("row 0 27; sound 0 1 9");
        SAY.is("a place's sound", row, "soundOf 0 0", 9);
        Story none = row.and("row 0 -1");
        SAY.is("none any more", none, "soundOf 0 0", 40);
        SAY.refused("none any more", none, "sound 0 0 1", "sound 0 26 1");
        SAY.is("none of none", none, "row 0 -1", 1);
        SAY.is("a ROW again is all sound 0", none.and("row 0 27"), "soundOf 0 0", 0);
        SAY.is("a shorter ROW is silent", row.and("row 0 1"), "soundOf 0 0", 41);
        SAY.is("a ROW of the same places is all sound 0", row.and("row 0 27"), "soundOf 0 0", 0);
        SAY.is("another letter's ROW stays", row.and("row 2 -1; row 1 0"), "soundOf 0 0", 9);
    }

    // Promise 3

    private static void bordersOfSounds() {
        Story all = NEW;
        for (int l = 0; l < 26; l++) {
            all = all.and("row " + l + " 27");
        }
        SAY.edges("a letter", all, "sound % 26 5", 0, 25);
        SAY.edges("a place", all, "sound 0 % 5", 0, 26);
        SAY.edges("a place", all, "sound 25 % 5", 0, 26);
        SAY.edges("a sound", all, "sound 0 26 %", 0, 39);
        SAY.edges("a sound", all, "sound 25 0 %", 0, 39);
        for (int places = 1; places < 27; places++) {
            SAY.edges("a place of so many", NEW.and("row 0 " + places + "; row 1 27; row 25 27"), "sound 0 % 5", 0, places - 1);
        }
        SAY.refused("a ROW without places", NEW.and("row 0 0; row 1 27"), "sound 0 0 5", "sound 0 -1 5", "sound 0 26 5");
        SAY.refused("no ROW", NEW.and("row 1 27"), "sound 0 0 5", "sound 0 -1 5", "sound 2 0 5", "sound 25 26 5");
    }

    private static void soundsOfOnePlaceAlone() {
        Story s = words("aabaz", "a", "b", "z").and("row 0 27; row 1 27; row 25 27; sound 0 1 39");
        int[] due = {0, 39, 0, 0, 0};
        Asked asked = SAY.of(s);
        for (int k = 0; k < due.length; k++) {
            asked.is("only that place", "soundOf 0 " + k, due[k]);
        }
        asked.is("not the end", "soundOf 1 0", 0).is("not b's", "soundOf 2 0", 0).is("not z's", "soundOf 3 0", 0);
        SAY.is("told again", s.and("sound 0 1 38"), "soundOf 0 1", 38);
        SAY.is("the first sound again", s.and("sound 0 1 0"), "soundOf 0 1", 0);
    }

    // Promise 4

    private static void bordersOfCosts() {
        Story told = words("a", "z", "", "b").and("cost 40 65 7; cost 40 -1 8; cost 65 -1 9; row 1 27; cost 0 40 6; cost 0 65 5");
        for (Story s : new Story[] {NEW, told}) {
            SAY.edges("sound a", s, "cost % 20 5", 0, 65);
            SAY.edges("sound a, put in", s, "cost % -1 5", 0, 65);
            SAY.edges("sound b, or NONE", s, "cost 20 % 5", -1, 65);
            SAY.edges("a change's cost", s, "cost 40 65 %", 1, 100);
            SAY.edges("a change's cost", s, "cost 65 0 %", 1, 100);
            SAY.edges("what it costs to put in", s, "cost 40 -1 %", 1, 100);
            SAY.edges("what it costs to put in", s, "cost 65 -1 %", 1, 100);
            SAY.refused("no sounds", s, "cost -1 -1 5", "cost -1 40 5", "cost MIN MIN 5", "cost MAX MAX 5", "cost 66 66 5",
                "cost -1 -2 5", "cost -2 -1 5");
        }
        for (int sound = 0; sound < 66; sound++) {
            SAY.refused("a and b the same", told, "cost " + sound + " " + sound + " 5");
        }
    }

    private static void costsBothWays() {
        Story s = words("a", "z", "").and("cost 40 -1 100; cost 65 -1 100");
        for (String told : new String[] {"cost 40 65 %", "cost 65 40 %"}) {
            for (int c : new int[] {1, 50, 100}) {
                Story t = s.and(told.replace("%", "" + c));
                SAY.of(t).is("a into b", "like 0 1 1", c).is("b into a", "like 1 0 1", c)
                    .is("the same sound 0", "like 0 0 1", 0).is("the same sound 0", "like 1 1 1", 0);
            }
        }
        SAY.of(s).is("struck", "like 0 2 1", 100).is("put in", "like 2 0 1", 100).is("a change at first", "like 0 1 1", 10);
        Story cheap = words("a", "z", "").and("cost 40 -1 1; cost 65 -1 2");
        SAY.of(cheap).is("struck and put in is less", "like 0 1 1", 3).is("and back", "like 1 0 1", 3)
            .is("struck", "like 0 2 1", 1).is("put in", "like 2 1 1", 2);
        Story row = words("a", "b", "").and("row 0 27; row 1 27; sound 1 26 39; cost 0 39 100; cost 0 -1 99; cost 39 -1 98");
        SAY.of(row).is("sounds of ROWS", "like 0 1 1", 100).is("sound 0", "like 0 2 1", 99).is("sound 39", "like 2 1 1", 98);
    }

    // Promise 5

    private static Story goods(int g, int h) {
        return words("d", "d").enters(0, g, 0, 1).enters(1, h, 0, 2);
    }

    private static void bordersOfNear() {
        Story told = goods(0, 359).and("near 0 359 600; near 1 2 3");
        for (Story s : new Story[] {NEW, told}) {
            SAY.edges("goods g", s, "near % 8 5", 0, 359);
            SAY.edges("goods h", s, "near 8 % 5", 0, 359);
            SAY.edges("NEAR", s, "near 0 359 %", 0, 999);
            SAY.edges("NEAR", s, "near 359 0 %", 0, 999);
            SAY.refused("no goods", s, "near -1 -1 5", "near 360 360 5", "near MIN MAX 5", "near MAX MIN 0");
        }
        for (int g = 0; g < 360; g += g < 5 || g > 350 ? 1 : 29) {
            SAY.refused("the same", told, "near " + g + " " + g + " 5", "near " + g + " " + g + " 0",
                "near " + g + " " + g + " 1000");
        }
    }

    private static void nearEitherWay() {
        SAY.is("told", goods(0, 359).and("near 0 359 500"), "clash 0 1 0 2", 359);
        SAY.is("told the other way", goods(0, 359).and("near 359 0 500"), "clash 0 1 0 2", 359);
        SAY.is("asked the other way", goods(359, 0).and("near 0 359 500"), "clash 0 1 0 2", 360 * 359);
        Story twice = goods(0, 359).and("near 0 359 500; near 359 0 499");
        SAY.of(twice).is("one pair", "about 3", 1).is("the later counts", "clash 0 1 0 2", -1);
        Story none = goods(0, 359).and("near 0 359 999; near 359 0 0; levels 700 1");
        SAY.of(none).is("0 is no pair", "about 3", 0).is("0 is not near at the lowest", "clash 0 1 0 2", -1);
        Story top = goods(0, 359).and("near 0 359 999");
        SAY.is("near at 999", top.and("levels 700 999"), "clash 0 1 0 2", 359);
        SAY.is("not near at 1000", top.and("levels 700 1000"), "clash 0 1 0 2", -1);
        Story least = goods(0, 359).and("near 0 359 1");
        SAY.is("near at 1", least.and("levels 700 1"), "clash 0 1 0 2", 359);
        SAY.is("not near at 2", least.and("levels 700 2"), "clash 0 1 0 2", -1);
    }

    /** Pair i is of goods i and 359 - i, NEAR 9 * i + 1. */
    private static Story pairs(Story s, int count) {
        StringBuilder b = new StringBuilder();
        for (int i = 0; i < count; i++) {
            b.append(i == 0 ? "" : ";").append("near ").append(i).append(' ').append(359 - i).append(' ').append(9 * i + 1);
        }
        return s.and(b.toString());
    }

    private static void nearJust(String sentence, Story s, int pair, int near) {
        int due = pair * 360 + 359 - pair;
        SAY.is(sentence, s.and("levels 700 " + near), "clash 0 1 0 2", due);
        SAY.is(sentence, s.and("levels 700 " + (near + 1)), "clash 0 1 0 2", -1);
    }

    private static void aHundredPairs() {
        Story almost = pairs(goods(8, 9), 99);
        SAY.is("pairs", almost, "about 3", 99);
        SAY.is("the 100th", almost, "near 8 9 500", 1);
        Story full = pairs(goods(99, 260), 100);
        SAY.is("pairs", full, "about 3", 100);
        SAY.refused("the 101st", full, "near 100 259 1", "near 259 100 999", "near 0 1 500", "near 358 359 1", "near 0 358 1");
        SAY.of(full).is("0 of an untold pair", "near 8 9 0", 1).is("is no pair", "about 3", 100)
            .is("and frees none", "near 8 9 1", 0);
        SAY.of(full).is("a told pair can be changed", "near 99 260 500", 1).is("the other way too", "near 359 0 500", 1)
            .is("and stays one", "about 3", 100).is("the 101st still", "near 8 9 1", 0);
        for (int gone : new int[] {0, 50, 99}) {
            Story freed = full.and("near " + (359 - gone) + " " + gone + " 0");
            SAY.is("one less", freed, "about 3", 99);
            SAY.of(freed.and("near 8 9 500")).is("a pair for it", "about 3", 100).is("but one", "near 8 10 1", 0);
        }
    }

    private static void pairsStayAsTold() {
        for (int pair : new int[] {0, 1, 50, 98, 99}) {
            Story full = pairs(goods(pair, 359 - pair), 100);
            nearJust("of 100 pairs", full, pair, 9 * pair + 1);
            nearJust("when another goes", full.and("near 3 356 0"), pair, 9 * pair + 1);
            nearJust("when another goes and one comes", full.and("near 3 356 0; near 8 9 999"), pair, 9 * pair + 1);
            nearJust("when another is told anew", full.and("near 3 356 999"), pair, 9 * pair + 1);
            nearJust("told anew", full.and("near " + (359 - pair) + " " + pair + " 77"), pair, 77);
            Story gone = full.and("near " + pair + " " + (359 - pair) + " 0; levels 700 1");
            SAY.is("what goes is not near", gone, "clash 0 1 0 2", -1);
        }
    }

    // Promise 6

    private static void bordersOfLevels() {
        for (Story s : new Story[] {NEW, NEW.and("levels 1 1000"), NEW.and("levels 1000 1")}) {
            SAY.edges("the first LEVEL", s, "levels % 600", 1, 1000);
            SAY.edges("the second LEVEL", s, "levels 600 %", 1, 1000);
            SAY.refused("neither", s, "levels 0 0", "levels 1001 1001", "levels MIN MIN", "levels MAX MAX");
        }
        SAY.of(NEW.and("levels 1 1000")).is("the first", "about 4", 1).is("the second", "about 5", 1000);
        SAY.of(NEW.and("levels 1000 1")).is("the first", "about 4", 1000).is("the second", "about 5", 1);
        Story s = words("aaaaaaaaaa", "aaaaaaabbb", "a").enters(0, 8, 0, 1).enters(1, 8, 0, 2).enters(2, 8, 0, 3);
        SAY.is("ALIKE from it on", s.and("levels 700 1000"), "clash 0 1 0 2", 2888);
        SAY.is("not ALIKE below it", s.and("levels 701 1000"), "clash 0 1 0 2", -1);
        SAY.is("LIKE 0 is below the lowest", words("a", "b").enters(0, 8, 0, 1).enters(1, 8, 0, 2).and("levels 1 1"),
            "clash 0 1 0 2", -1);
        SAY.is("LIKE 1000 is at the top", words("a", "a").enters(0, 8, 0, 1).enters(1, 8, 0, 2).and("levels 1000 1000"),
            "clash 0 1 0 2", 2888);
    }

    // Promise 7

    private static void bordersOfMarks() {
        for (Story s : new Story[] {NEW, manyMarks(3), manyMarks(119)}) {
            SAY.edges("a KIND", s, "mark % 5", 0, 4);
            SAY.edges("a PERSON", s, "mark 0 %", 0, 99);
            SAY.refused("neither", s, "mark -1 -1", "mark 5 100", "mark MIN MIN", "mark MAX MAX");
        }
        SAY.is("the first", NEW, "mark 0 0", 0);
        SAY.is("the second", manyMarks(1), "mark 4 99", 1);
        SAY.of(manyMarks(119)).is("the last", "mark 4 99", 119).is("its KIND", "markOf 119 0", 4)
            .is("its OWNER", "markOf 119 1", 99).is("marks", "about 0", 120);
        SAY.refused("there are 120", manyMarks(120), "mark 0 0", "mark 4 99", "mark -1 0", "mark 0 100");
    }

    // Promise 8

    private static void bordersOfLetters() {
        SAY.edges("a mark", manyMarks(1), "letter % 3", 0, 0);
        SAY.edges("a mark", manyMarks(4), "letter % 3", 0, 3);
        SAY.edges("a mark", manyMarks(120), "letter % 3", 0, 119);
        SAY.edges("a letter", manyMarks(1), "letter 0 %", 0, 25);
        SAY.edges("a letter", NEW.mark(2, 1, letters(39)), "letter 0 %", 0, 25);
        for (int count = 0; count < 40; count++) {
            SAY.is("how many it has", words("z", letters(count)), "letter 1 25", count + 1);
        }
        for (int kind = 0; kind < 5; kind++) {
            Story full = NEW.mark(kind, 1, letters(39) + "z").mark(kind, 2, "b");
            SAY.of(full).is("letters", "markOf 0 2", 40).is("the last", "soundOf 0 39", 65).is("no more", "soundOf 0 40", -1);
            SAY.refused("there are 40", full, "letter 0 0", "letter 0 25", "letter 0 26");
            SAY.is("another's word", full, "letter 1 0", 2);
        }
    }

    private static void lettersAndPapers() {
        Story paper = words("ab", "ab").and("paper 0 0 8 5");
        SAY.refused("the mark has a paper", paper, "letter 0 0", "letter 0 25");
        SAY.is("another mark has none", paper, "letter 1 0", 3);
        SAY.is("taken back", paper.and("undo"), "letter 0 0", 3);
        SAY.is("a refused paper is none", words("ab").tries("paper 1 0 0 5"), "letter 0 0", 3);
        SAY.refused("the second taken back, the first is there", paper.and("paper 1 0 0 5; undo"), "letter 0 0");
        SAY.refused("a paper of day 60000", words("ab").and("paper 0 0 8 60000"), "letter 0 0");
    }

    // Promise 9

    private static Story codes(int kind, int count) {
        int[] codes = new int[count];
        for (int i = 0; i < count; i++) {
            codes[i] = 2000 * i;
        }
        return NEW.mark(kind, 1, "ab", codes).mark(kind, 2, "", 7);
    }

    private static void bordersOfCodes() {
        SAY.edges("a mark", NEW.mark(1, 0, ""), "code % 3", 0, 0);
        SAY.edges("a mark", codes(2, 3), "code % 3", 0, 1);
        for (int kind = 1; kind <= 2; kind++) {
            SAY.edges("a CODE", NEW.mark(kind, 0, ""), "code 0 %", 0, 32767);
            for (int count = 1; count < 12; count++) {
                SAY.is("how many it has", codes(kind, count), "code 0 32767", count + 1);
                SAY.refused("it has it", codes(kind, count), "code 0 0", "code 0 " + 2000 * (count - 1));
            }
            Story full = codes(kind, 12);
            SAY.is("CODES", full, "markOf 0 4", 12);
            SAY.refused("there are 12", full, "code 0 1", "code 0 0", "code 0 22000", "code 0 32767", "code 0 32768");
            SAY.of(full).is("another's picture", "code 1 0", 2).is("and its CODES", "markOf 1 4", 2);
        }
        Story last = NEW;
        for (int i = 0; i < 120; i++) {
            last = last.and("mark " + (1 + i % 2) + " 0");
        }
        SAY.edges("a mark", last, "code % 3", 0, 119);
        SAY.refused("CODE 32767 twice", NEW.mark(1, 0, "", 32767, 0), "code 0 32767", "code 0 0");
    }

    private static void codesOfNoPicture() {
        for (int kind : new int[] {0, 3, 4}) {
            SAY.refused("no picture", NEW.mark(kind, 0, "ab"), "code 0 0", "code 0 32767", "code 0 -1");
            SAY.is("no CODES", NEW.mark(kind, 0, "ab").tries("code 0 0"), "markOf 0 4", 0);
        }
    }

    private static void codesAndPapers() {
        Story paper = NEW.mark(1, 0, "", 5).mark(2, 1, "").and("paper 0 0 8 5");
        SAY.refused("the mark has a paper", paper, "code 0 6", "code 0 5", "letter 0 0");
        SAY.is("another mark has none", paper, "code 1 5", 1);
        SAY.is("taken back", paper.and("undo"), "code 0 6", 2);
        SAY.is("a refused paper is none", NEW.mark(1, 0, "").tries("paper 0 0 360 5"), "code 0 6", 1);
    }

    // Promises 14 to 16

    private static void bordersOfWhatIsToldOfMarks() {
        for (int count : new int[] {1, 2, 120}) {
            SAY.edges("a mark", manyMarks(count), "markOf % 0", 0, count - 1);
            SAY.edges("a mark", manyMarks(count), "like % 0 1", 0, count - 1);
            SAY.edges("another mark", manyMarks(count), "like 0 % 0", 0, count - 1);
        }
        SAY.edges("what", codes(2, 3), "markOf 0 %", 0, 4);
        SAY.edges("what", codes(2, 3), "like 0 1 %", 0, 1);
        Story s = NEW.mark(2, 99, "abcz", 1, 2, 3).and("row 1 0");
        SAY.of(s).is("KIND", "markOf 0 0", 2).is("OWNER", "markOf 0 1", 99).is("letters", "markOf 0 2", 4)
            .is("sounds", "markOf 0 3", 3).is("CODES", "markOf 0 4", 3);
        Story bare = NEW.and("mark 0 0");
        for (int what = 0; what < 5; what++) {
            SAY.is("of a bare mark", bare, "markOf 0 " + what, 0);
        }
        SAY.refused("no mark", s, "like -1 -1 0", "like 1 1 0", "like MIN MAX 1", "like MAX MIN 0");
    }

    private static void bordersOfSoundOf() {
        for (int count : new int[] {1, 2, 39, 40}) {
            SAY.edges("sound k", words(letters(count)), "soundOf 0 %", 0, count - 1);
        }
        SAY.refused("a word without letters", words(""), "soundOf 0 0", "soundOf 0 -1", "soundOf 0 MIN", "soundOf 0 MAX");
        SAY.refused("a silent word", words(letters(40)).and("row 0 0"), "soundOf 0 0", "soundOf 0 39", "soundOf 0 -1");
        SAY.edges("of the sounds, not the letters", words("abab").and("row 0 0"), "soundOf 0 %", 0, 1);
        SAY.edges("a mark", words("a", "b", "c"), "soundOf % 0", 0, 2);
        Story longest = words(letters(39) + "z").and("row 0 26; sound 0 25 39; row 25 27; sound 25 26 38");
        SAY.of(longest).is("the last but one", "soundOf 0 38", 39).is("the last", "soundOf 0 39", 38)
            .is("behind it", "soundOf 0 40", -1);
    }

    private static void bothWays(String sentence, Story s, int like, int cost) {
        SAY.of(s).is(sentence, "like 0 1 0", like).is(sentence, "like 1 0 0", like)
            .is(sentence, "like 0 1 1", cost).is(sentence, "like 1 0 1", cost);
    }

    private static void likeOfWords() {
        bothWays("1000 where both are without any", words("", ""), 1000, 0);
        bothWays("1000 where both are silent", words("ab", "aaaa").and("row 0 0; row 1 0"), 1000, 0);
        bothWays("one silent, one empty", words("", letters(40)).and("row 0 0"), 1000, 0);
        bothWays("one without any", words("", "a"), 0, 10);
        bothWays("one without any, cheap", words("", "a").and("cost 40 -1 1"), 900, 1);
        bothWays("exactly 0", words("a", "b"), 0, 10);
        bothWays("just above 0", words("a", "b").and("cost 40 41 9"), 100, 9);
        bothWays("below 0 is 0", words("a", "b").and("cost 40 41 11"), 0, 11);
        bothWays("far below 0 is 0", words(letters(40), "b".repeat(40))
            .and("cost 40 41 100; cost 40 -1 100; cost 41 -1 100"), 0, 4000);
        bothWays("the longest against none", words(letters(40), "").and("cost 40 -1 100"), 0, 4000);
        bothWays("the longest, one apart", words(letters(40), letters(39) + "b"), 975, 10);
        bothWays("the longest, one apart, cheap: cut", words(letters(40), letters(39) + "b").and("cost 40 41 1"), 998, 1);
        bothWays("the longest alike", words(letters(40), letters(40)), 1000, 0);
        bothWays("the greater number of sounds", words("abc", "a"), 334, 20);
        bothWays("of sounds, not of letters", words("abc", "a").and("row 2 0"), 500, 10);
        bothWays("cut", words("abc", "abd"), 667, 10);
        bothWays("cut", words("aaaaaaa", "aaaaaab").and("cost 40 41 1"), 986, 1);
        SAY.is("of a mark and itself", words("abc"), "like 0 0 0", 1000);
        SAY.is("COST of a mark and itself", words("abc"), "like 0 0 1", 0);
        bothWays("put in ahead", words("bcd", "abcd"), 750, 10);
        bothWays("struck behind", words("abcd", "abc"), 750, 10);
    }

    private static Story pictures(int kind, int[] one, int other, int... two) {
        return NEW.mark(kind, 0, "a", one).mark(other, 1, "b", two);
    }

    private static void likeOfPictures() {
        int[] twelve = {0, 1, 2, 3, 4, 5, 6, 7, 8, 9, 10, 32767};
        int[][] kinds = {{1, 1}, {1, 2}, {2, 1}, {2, 2}};
        for (int[] k : kinds) {
            bothWays("0 without any", pictures(k[0], new int[0], k[1]), 0, 10);
            bothWays("one without any", pictures(k[0], twelve, k[1]), 0, 10);
            bothWays("all of 12", pictures(k[0], twelve, k[1], 32767, 10, 9, 8, 7, 6, 5, 4, 3, 2, 1, 0), 1000, 10);
            bothWays("11 of 12, cut", pictures(k[0], twelve, k[1], 10, 9, 8, 7, 6, 5, 4, 3, 2, 1, 0), 916, 10);
            bothWays("1 of 12, cut", pictures(k[0], twelve, k[1], 32767), 83, 10);
            bothWays("none of 12", pictures(k[0], twelve, k[1], 11, 12, 32766), 0, 10);
            bothWays("1 of 1", pictures(k[0], new int[] {0}, k[1], 0), 1000, 10);
            bothWays("by the greater number", pictures(k[0], new int[] {5, 6}, k[1], 6, 7, 8), 333, 10);
        }
    }

    private static void likeOfKinds() {
        for (int kind = 0; kind < 5; kind++) {
            Story same = NEW.mark(1, 0, "a", 5).mark(kind, 1, "a");
            bothWays("DRAWN and another KIND is 0", same, 0, 0);
            Story mixed = NEW.mark(2, 0, "a", 5).mark(kind, 1, "a");
            bothWays("MIXED and others: by words, DRAWN by pictures", mixed, kind == 1 ? 0 : 1000, 0);
            for (int other : new int[] {0, 3, 4}) {
                Story s = NEW.mark(kind, 0, "abc").mark(other, 1, "abd");
                bothWays("all others: LIKE of words", s, kind == 1 ? 0 : 667, 10);
            }
        }
        bothWays("two MIXED: the greater is the words'", NEW.mark(2, 0, "ab", 5, 6, 7).mark(2, 1, "ac", 5, 8, 9), 500, 10);
        bothWays("two MIXED: the greater is the pictures'", NEW.mark(2, 0, "ab", 5, 6, 7).mark(2, 1, "zc", 5, 6), 666, 20);
        bothWays("DRAWN and MIXED: never the words", NEW.mark(1, 0, "ab", 5, 6, 7).mark(2, 1, "ab", 5), 333, 0);
        bothWays("two DRAWN: never the words", NEW.mark(1, 0, "ab").mark(1, 1, "ab"), 0, 0);
        SAY.is("a bare picture and itself", NEW.mark(1, 0, "ab"), "like 0 0 0", 0);
        SAY.is("a picture and itself", NEW.mark(1, 0, "", 5), "like 0 0 0", 1000);
    }

    public static void main(String[] args) {
        aNewObjectHasNoMarks();
        aNewObjectHasNoRows();
        aNewObjectHasNoPapers();
        costsAtFirst();
        nearAtFirst();
        levelsAtFirst();
        bordersOfRows();
        rowsOfSoManyPlaces();
        rowsTakenAway();
        bordersOfSounds();
        soundsOfOnePlaceAlone();
        bordersOfCosts();
        costsBothWays();
        bordersOfNear();
        nearEitherWay();
        aHundredPairs();
        pairsStayAsTold();
        bordersOfLevels();
        bordersOfMarks();
        bordersOfLetters();
        lettersAndPapers();
        bordersOfCodes();
        codesOfNoPicture();
        codesAndPapers();
        bordersOfWhatIsToldOfMarks();
        bordersOfSoundOf();
        likeOfWords();
        likeOfPictures();
        likeOfKinds();
        SAY.end();
    }
}
