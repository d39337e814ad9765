/** The sentences of promises 17 to 23 and of Terms II by a day that name a boundary, each with a test of its own. */
public final class BoundsOfRightsTest {
    private static final Sentences SAY = new Sentences();
    private static final int BOTH = 8 * 360 + 8;

    private static Story manyMarks(int lastOwner) {
        Story s = new Story();
        for (int i = 0; i < 119; i++) {
            s = s.and("mark 0 " + i % 99);
        }
        return s.and("mark 0 " + lastOwner);
    }

    // Terms II: HAS, FIRST, TERM, LAPSED, STRUCK

    private static void whatAMarkHas() {
        Story s = Story.marks(0).and("paper 0 0 8 50");
        SAY.of(s).is("not ahead of GOODS", "right 0 8 0 49 0", -1).is("from its day on", "right 0 8 0 50 0", 50)
            .is("to the last DAY", "right 0 8 0 60000 0", 50).is("goods below", "right 0 7 0 50 0", -1)
            .is("goods above", "right 0 9 0 50 0", -1).is("none", "state 0 49 4", 0).is("one", "state 0 50 4", 1);
        Story given = s.and("paper 1 0 0 60; paper 3 0 8 70");
        SAY.of(given).is("ahead of GIVE", "right 0 8 0 69 0", 50).is("GIVE of the day itself", "right 0 8 0 70 0", 50)
            .is("behind GIVE", "right 0 8 0 71 0", -1).is("goods", "state 0 70 4", 1).is("goods behind", "state 0 71 4", 0);
        Story again = given.and("paper 0 0 8 80");
        SAY.of(again).is("between", "right 0 8 0 79 0", -1).is("since the latest GOODS", "right 0 8 0 80 0", 80)
            .is("ahead it stays", "right 0 8 0 70 0", 50);
        Story same = given.and("paper 0 0 8 70");
        SAY.of(same).is("GIVE and GOODS of one day", "right 0 8 0 70 0", 70).is("the day ahead", "right 0 8 0 69 0", 50)
            .is("the day behind", "right 0 8 0 71 0", 70);
        Story twice = same.and("paper 3 0 8 70");
        SAY.of(twice).is("GIVE, GOODS, GIVE of one day", "right 0 8 0 70 0", 70).is("behind it", "right 0 8 0 71 0", -1);
        Story never = Story.marks(0).enters(0, 8, 0, 50).and("paper 3 0 8 50");
        SAY.of(never).is("GOODS and GIVE of one day", "right 0 8 0 50 0", 50).is("stands that day", "right 0 8 0 50 2", 1)
            .is("behind it", "right 0 8 0 51 0", -1);
        Story zero = Story.marks(0).enters(0, 0, 0, 0);
        SAY.of(zero).is("since day 0", "right 0 0 0 0 0", 0).is("RIGHT of day 0", "right 0 0 0 0 1", 0)
            .is("stands on day 0", "right 0 0 0 0 2", 1).is("FIRST of day 0", "state 0 0 0", 0);
    }

    private static void firstAndTerm() {
        Story s = Story.marks(0).and("paper 0 0 8 50; paper 1 0 9 60; paper 1 0 3 60; paper 1 0 4 100");
        SAY.of(s).is("not entered yet", "state 0 59 0", -1).is("no TERM yet", "state 0 59 1", -1)
            .is("nor LAPSED", "state 0 59 2", -1).is("no countries", "state 0 59 5", 0).is("FIRST", "state 0 60 0", 60)
            .is("TERM's end", "state 0 60 1", 3710).is("countries", "state 0 60 5", 2).is("FIRST stays", "state 0 100 0", 60)
            .is("countries", "state 0 99 5", 2).is("one more", "state 0 100 5", 3).is("TERM's end stays", "state 0 100 1", 3710)
            .is("not LAPSED on its end", "state 0 3710 2", 0).is("nor 180 days behind", "state 0 3890 2", 0)
            .is("LAPSED behind these", "state 0 3891 2", 1).is("LAPSED for good", "state 0 60000 2", 1);
        Story renewed = s.and("paper 2 0 0 3890");
        SAY.of(renewed).is("ahead of RENEW", "state 0 3889 1", 3710).is("from its day on", "state 0 3890 1", 7360)
            .is("not LAPSED any more", "state 0 3891 2", 0).is("not yet", "state 0 7540 2", 0).is("LAPSED", "state 0 7541 2", 1);
        SAY.of(s.and("paper 1 0 5 3900")).is("entered elsewhere, LAPSED still", "state 0 3900 2", 1);
        Story last = Story.marks(0).enters(0, 8, 0, 60000);
        SAY.of(last).is("TERM's end behind all DAYS", "state 0 60000 1", 63650).is("not LAPSED", "state 0 60000 2", 0);
        Story seventeen = Story.marks(0).enters(0, 8, 0, 0);
        for (int end = 3650; end - 365 <= 60000; end += 3650) {
            seventeen = seventeen.and("paper 2 0 0 " + (end - 365));
        }
        SAY.is("renewed as often as DAYS allow", seventeen, "state 0 60000 1", 3650 * 17);
    }

    private static void struckOnes() {
        Story s = Story.marks(0).enters(0, 8, 0, 10).and("paper 4 0 0 20");
        SAY.of(s).is("not ahead", "state 0 19 3", 0).is("from the day on", "state 0 20 3", 1).is("for good", "state 0 60000 3", 1)
            .is("stands ahead", "right 0 8 0 19 2", 1).is("not from the day on", "right 0 8 0 20 2", 0)
            .is("RIGHT stays", "right 0 8 0 20 1", 10).is("not entered", "state 0 9 3", 0);
        SAY.of(s.and("undo")).is("taken back", "state 0 20 3", 0).is("stands", "right 0 8 0 20 2", 1);
        SAY.is("renewed, STRUCK still", s.and("paper 2 0 0 3660"), "state 0 3660 3", 1);
    }

    // Terms II: RIGHT, STANDS

    private static Story later(int since, int enter) {
        Story s = Story.marks(0).and("paper 0 0 9 90");
        s = since <= 100 ? s.and("paper 0 0 8 " + since + "; paper 1 0 0 100") : s.and("paper 1 0 0 100; paper 0 0 8 " + since);
        return s.and("paper 1 0 1 " + Math.max(enter, since));
    }

    private static void rightOfFirst() {
        SAY.is("FIRST of the same day", later(100, 100), "right 0 8 1 300 1", 100);
        SAY.is("FIRST 182 days ahead", later(100, 282), "right 0 8 1 300 1", 100);
        SAY.is("FIRST 183 days ahead", later(100, 283), "right 0 8 1 300 1", 283);
        SAY.is("HAS them since earlier", later(99, 282), "right 0 8 1 300 1", 100);
        SAY.is("HAS them since the day behind", later(101, 282), "right 0 8 1 300 1", 282);
        SAY.is("HAS them since that ENTER's day", later(282, 282), "right 0 8 1 300 1", 282);
        SAY.is("in the first country", later(100, 282), "right 0 8 0 300 1", 100);
        SAY.is("not ahead of since", later(101, 282), "right 0 8 0 300 1", 101);
        SAY.is("none ahead of its ENTER there", later(100, 282), "right 0 8 1 281 1", -1);
        SAY.is("doesn't stand ahead of its ENTER there", later(100, 282), "right 0 8 1 281 2", 0);
        SAY.is("by the ENTER's day", later(100, 282), "right 0 8 1 282 1", 100);
        SAY.is("none where it isn't entered", later(100, 282), "right 0 8 2 300 1", -1);
        SAY.is("none for goods that it hasn't", later(100, 282), "right 0 7 1 300 1", -1);
        Story goods = later(100, 282).and("paper 0 0 5 400");
        SAY.of(goods).is("goods behind both", "right 0 5 1 400 1", 400).is("goods behind both", "right 0 5 0 400 1", 400)
            .is("not by the day ahead", "right 0 5 0 399 1", -1);
        Story regained = later(100, 110).and("paper 3 0 8 120; paper 0 0 8 120");
        SAY.of(regained).is("by the day ahead", "right 0 8 1 119 1", 100).is("regained that day", "right 0 8 1 120 1", 120)
            .is("regained, where it was first", "right 0 8 0 120 1", 120);
        SAY.of(later(100, 110).and("paper 3 0 8 120")).is("given up that day", "right 0 8 1 120 1", 100)
            .is("stands that day", "right 0 8 1 120 2", 1).is("behind it none", "right 0 8 1 121 1", -1)
            .is("nor does it stand", "right 0 8 1 121 2", 0);
    }

    private static void standingWithoutUse() {
        Story s = later(100, 283);
        SAY.of(s).is("1825 days behind RIGHT", "right 0 8 0 1925 2", 1).is("1826", "right 0 8 0 1926 2", 0)
            .is("RIGHT there is later", "right 0 8 1 2108 2", 1).is("1826 there", "right 0 8 1 2109 2", 0);
        Story priority = later(100, 282);
        SAY.of(priority).is("RIGHT is FIRST", "right 0 8 1 1925 2", 1).is("1826", "right 0 8 1 1926 2", 0);
        Story used = later(100, 282).and("paper 6 0 8 300");
        SAY.of(used).is("1825 days behind USE", "right 0 8 0 2125 2", 1).is("1826", "right 0 8 0 2126 2", 0)
            .is("USE in every country", "right 0 8 1 2125 2", 1).is("not of other goods", "right 0 9 0 1926 2", 0);
        Story twice = used.and("paper 6 0 8 301; paper 6 0 8 301");
        SAY.of(twice).is("the latest USE", "right 0 8 0 2126 2", 1).is("1826", "right 0 8 0 2127 2", 0);
        Story ahead = Story.marks(0).enters(0, 8, 0, 10).and("paper 6 0 8 20; paper 1 0 1 300");
        SAY.of(ahead).is("the later is RIGHT", "right 0 8 1 2125 2", 1).is("1826", "right 0 8 1 2126 2", 0)
            .is("the later is USE", "right 0 8 0 1845 2", 1).is("1826", "right 0 8 0 1846 2", 0);
        Story gap = Story.marks(0).enters(0, 8, 0, 10).and("paper 6 0 8 1900");
        SAY.of(gap).is("USE by t alone", "right 0 8 0 1835 2", 1).is("a gap", "right 0 8 0 1836 2", 0)
            .is("a gap to the day ahead", "right 0 8 0 1899 2", 0).is("from USE on again", "right 0 8 0 1900 2", 1);
        Story regained = Story.marks(0).enters(0, 8, 0, 10).and("paper 6 0 8 20; paper 3 0 8 30; paper 0 0 8 40");
        SAY.of(regained).is("regained, USE is earlier", "right 0 8 0 1865 2", 1).is("1826", "right 0 8 0 1866 2", 0);
        Story moved = Story.marks(0).and("paper 0 0 7 10").enters(0, 8, 0, 10).and("paper 6 0 8 20; paper 3 0 7 30");
        SAY.of(moved).is("USE stays when other goods go", "right 0 8 0 1845 2", 1).is("1826", "right 0 8 0 1846 2", 0);
        Story other = Story.marks(0, 0).enters(0, 8, 0, 10).enters(1, 8, 0, 10).and("paper 6 1 8 500");
        SAY.of(other).is("another mark's USE", "right 0 8 0 1836 2", 0).is("its own", "right 1 8 0 2325 2", 1)
            .is("another's, asked behind it", "right 0 8 0 1836 2", 0);
    }

    /** Goods that were told first go; those told last stay as they are. */
    private static void goodsStayWhenOthersGo() {
        Story s = Story.marks(0).and("paper 0 0 5 10; paper 0 0 6 11; paper 1 0 0 12; paper 0 0 7 13; paper 6 0 6 14; paper 6 0 7 15");
        for (int gone : new int[] {5, 6, 7}) {
            Asked asked = SAY.of(s.and("paper 3 0 " + gone + " 20"));
            for (int g = 5; g <= 7; g++) {
                boolean isThere = g != gone;
                int used = g == 5 ? 12 : g + 8;
                asked.is("since", "right 0 " + g + " 0 21 0", isThere ? (g == 7 ? 13 : g + 5) : -1)
                    .is("RIGHT", "right 0 " + g + " 0 21 1", isThere ? (g == 7 ? 13 : 12) : -1)
                    .is("STANDS", "right 0 " + g + " 0 " + (used + 1825) + " 2", isThere ? 1 : 0)
                    .is("STANDS no more", "right 0 " + g + " 0 " + (used + 1826) + " 2", 0);
            }
        }
    }

    private static void standingUntilLapsed() {
        Story s = Story.marks(0).enters(0, 8, 0, 10).and("paper 6 0 8 3000");
        SAY.of(s).is("180 days behind its TERM's end", "right 0 8 0 3840 2", 1).is("LAPSED", "right 0 8 0 3841 2", 0)
            .is("RIGHT stays", "right 0 8 0 3841 1", 10);
        Story renewed = s.and("paper 2 0 0 3840");
        SAY.of(renewed).is("renewed", "right 0 8 0 3841 2", 1).is("1825 days behind USE", "right 0 8 0 4825 2", 1)
            .is("1826", "right 0 8 0 4826 2", 0);
    }

    // Promises 17 and 18

    private static void bordersOfRight() {
        Story s = Story.marks(0, 0).enters(0, 0, 0, 0).and("paper 0 0 359 0; paper 1 0 15 0").enters(1, 0, 0, 0);
        for (int what = 0; what < 3; what++) {
            SAY.edges("a mark", s, "right % 0 0 5 " + what, 0, 1);
            SAY.edges("a DAY", s, "right 0 0 0 % " + what, 0, 60000);
            SAY.edges("a country", s, "right 0 0 % 5 " + what, 0, 15);
        }
        SAY.edges("goods", s, "right 0 % 0 5 2", 0, 359);
        SAY.edges("what", s, "right 0 0 0 5 %", 0, 2);
        SAY.is("the greatest goods", s, "right 0 359 15 0 2", 1);
        SAY.edges("a mark", manyMarks(0), "right % 0 0 0 2", 0, 119);
        SAY.refused("none of all", s, "right -1 -1 -1 -1 -1", "right MAX MAX MAX MAX MAX", "right MIN MIN MIN MIN MIN");
        Story bare = Story.marks(0);
        SAY.of(bare).is("a bare mark", "right 0 0 0 0 0", -1).is("no RIGHT", "right 0 0 0 0 1", -1)
            .is("doesn't STAND", "right 0 0 0 0 2", 0);
        SAY.edges("without goods, also no such country", bare, "right 0 8 % 0 2", 0, 15);
    }

    private static void bordersOfState() {
        Story s = Story.marks(0, 0).enters(0, 8, 0, 0).enters(1, 8, 0, 0);
        for (int what = 0; what < 6; what++) {
            SAY.edges("a mark", s, "state % 5 " + what, 0, 1);
            SAY.edges("a DAY", s, "state 0 % " + what, 0, 60000);
        }
        SAY.edges("what", s, "state 0 5 %", 0, 5);
        SAY.edges("a mark", manyMarks(0), "state % 0 3", 0, 119);
        SAY.edges("what, if it isn't entered", Story.marks(0).and("paper 0 0 8 0"), "state 0 0 %", 3, 5);
        SAY.refused("0 to 2 if it isn't entered", Story.marks(0), "state 0 0 0", "state 0 60000 1", "state 0 0 2");
        SAY.refused("none of all", s, "state -1 -1 -1", "state MAX MAX MAX", "state MIN MIN MIN");
        Story full = Story.marks(0);
        for (int g = 0; g < 20; g++) {
            full = full.and("paper 0 0 " + (340 + g) + " 5");
        }
        for (int c = 0; c < 16; c++) {
            full = full.and("paper 1 0 " + c + " 5");
        }
        SAY.of(full).is("all goods", "state 0 5 4", 20).is("all countries", "state 0 5 5", 16).is("none yet", "state 0 4 4", 0);
    }

    // Promise 19 and CLASHES

    private static final Story WAY = Story.marks(0, 0).enters(0, 8, 0, 10).enters(1, 8, 0, 20);

    private static void bordersOfClash() {
        SAY.edges("mark a", WAY, "clash % 1 0 20", 0, 0);
        SAY.edges("mark b", WAY, "clash 0 % 0 20", 1, 1);
        SAY.edges("a country", WAY, "clash 0 1 % 20", 0, 0);
        SAY.edges("a DAY: B's RIGHT to A's last", WAY, "clash 0 1 0 %", 20, 1835);
        Story last = Story.marks(0, 0).enters(0, 8, 15, 60000).enters(1, 8, 15, 60000);
        SAY.edges("the last DAY", last, "clash 0 1 15 %", 60000, 60000);
        SAY.edges("the last country", last, "clash 0 1 % 60000", 15, 15);
        Story zero = Story.marks(0, 0).enters(0, 8, 15, 0).enters(1, 8, 15, 0);
        SAY.edges("the first DAY", zero, "clash 0 1 15 %", 0, 1825);
        Story many = manyMarks(99).enters(118, 8, 0, 10).enters(119, 8, 0, 20);
        SAY.edges("the last marks", many, "clash % 119 0 20", 118, 118);
        SAY.edges("the last marks", many, "clash 118 % 0 20", 119, 119);
        SAY.refused("itself", WAY, "clash 0 0 0 20", "clash 1 1 0 20");
        SAY.refused("none of all", WAY, "clash -1 -1 -1 -1", "clash MAX MAX MAX MAX", "clash MIN MIN MIN MIN");
        SAY.refused("no marks", new Story(), "clash 0 0 0 0", "clash 0 1 0 0");
        SAY.refused("no papers", Story.marks(0, 0), "clash 0 1 0 0", "clash 1 0 0 60000");
    }

    private static void leastGoods() {
        Story s = Story.marks(0, 0).and("paper 0 0 359 10; paper 0 0 0 10").enters(0, 100, 0, 10)
            .and("paper 0 1 359 20; paper 0 1 0 20").enters(1, 100, 0, 20);
        SAY.is("the least g", s, "clash 0 1 0 20", 0);
        SAY.is("the least h with that", s.and("near 0 359 500; paper 3 1 0 20"), "clash 0 1 0 21", 359);
        SAY.is("the least g first", s.and("near 359 0 500; paper 3 0 0 20"), "clash 0 1 0 21", 100 * 361);
        SAY.is("h by that g", s.and("near 100 0 500; paper 3 0 0 20"), "clash 0 1 0 21", 100 * 360);
        Story greatest = Story.marks(0, 0).enters(0, 359, 0, 10).enters(1, 359, 0, 20);
        SAY.is("the greatest", greatest, "clash 0 1 0 20", 359 * 361);
        SAY.is("the greatest g, the least h", Story.marks(0, 0).enters(0, 359, 0, 10).enters(1, 0, 0, 20).and("near 0 359 999"),
            "clash 0 1 0 20", 359 * 360);
    }

    private static void clashOfOwners() {
        Story s = new Story().mark(0, 7, "d").mark(0, 7, "d").mark(0, 0, "d").mark(0, 99, "d");
        for (int m = 0; m < 4; m++) {
            s = s.enters(m, 8, 0, 10 + m);
        }
        SAY.refused("one OWNER", s, "clash 0 1 0 13", "clash 1 0 0 13");
        SAY.of(s).is("two OWNERS", "clash 0 2 0 13", BOTH).is("two OWNERS", "clash 2 3 0 13", BOTH);
    }

    private static void clashOfLevels() {
        Story s = new Story().mark(0, 0, "aaaaaaaaaa").mark(0, 1, "aaaaaaabbb").enters(0, 8, 0, 10).enters(1, 9, 0, 20);
        Story near = s.and("near 8 9 600");
        SAY.is("both at their LEVELS", near.and("levels 700 600"), "clash 0 1 0 20", 8 * 360 + 9);
        SAY.is("the first LEVEL is above", near.and("levels 701 600"), "clash 0 1 0 20", -1);
        SAY.is("the second LEVEL is above", near.and("levels 700 601"), "clash 0 1 0 20", -1);
        SAY.is("not told", s.and("levels 700 1"), "clash 0 1 0 20", -1);
    }

    private static void clashOfKnownOnes() {
        Story s = Story.marks(4, 4).enters(0, 8, 0, 10).enters(1, 300, 0, 20);
        SAY.refused("the KIND alone is no paper", s, "clash 0 1 0 20");
        Story known = s.and("paper 7 0 0 30");
        SAY.of(known).is("not by the day ahead", "clash 0 1 0 29", -1).is("A KNOWN by a paper", "clash 0 1 0 30", 8 * 360 + 300)
            .is("not the other way", "clash 1 0 0 30", -1);
        SAY.refused("B KNOWN by a paper", s.and("paper 7 1 0 30"), "clash 0 1 0 30", "clash 1 0 0 30");
        Story nearest = known.and("paper 0 1 0 40; levels 700 1000");
        SAY.is("all goods are near", nearest, "clash 0 1 0 40", 8 * 360);
        Story unlike = new Story().mark(4, 0, "a").mark(0, 1, "b").enters(0, 8, 0, 10).enters(1, 8, 0, 20).and("paper 7 0 0 20");
        SAY.refused("KNOWN, but not ALIKE", unlike, "clash 0 1 0 20");
    }

    private static void clashOfStanding() {
        SAY.edges("A STANDS to 1825 days behind its RIGHT", WAY.and("paper 6 1 8 1500"), "clash 0 1 0 %", 20, 1835);
        SAY.edges("B STANDS to 1825 days behind its RIGHT", WAY.and("paper 6 0 8 1500"), "clash 0 1 0 %", 20, 1845);
        SAY.edges("A STRUCK", WAY.and("paper 4 0 0 30"), "clash 0 1 0 %", 20, 29);
        SAY.edges("B STRUCK", WAY.and("paper 4 1 0 30"), "clash 0 1 0 %", 20, 29);
        SAY.edges("A's goods given up", WAY.and("paper 3 0 8 30"), "clash 0 1 0 %", 20, 30);
        SAY.edges("B's goods given up", WAY.and("paper 3 1 8 30"), "clash 0 1 0 %", 20, 30);
        Story used = WAY.and("paper 6 0 8 3000; paper 6 1 8 3000");
        SAY.is("A not LAPSED", used, "clash 0 1 0 3840", BOTH);
        SAY.is("A LAPSED", used, "clash 0 1 0 3841", -1);
        Story renewed = used.and("paper 2 0 0 3660");
        SAY.is("B not LAPSED", renewed, "clash 0 1 0 3850", BOTH);
        SAY.is("B LAPSED", renewed, "clash 0 1 0 3851", -1);
        SAY.refused("A not entered there", Story.marks(0, 0).enters(0, 8, 1, 10).enters(1, 8, 0, 20), "clash 0 1 0 20");
        SAY.refused("B not entered there", Story.marks(0, 0).enters(0, 8, 0, 10).enters(1, 8, 1, 20), "clash 0 1 0 20");
    }

    /** Both marks are for goods 8 and others; from some day on one of the two STANDS for its others alone. */
    private static void clashOfTheseGoods() {
        Story s = Story.marks(0, 0, 0).and("paper 0 0 9 10").enters(0, 8, 0, 10);
        Story a = s.and("paper 6 0 9 1800; paper 0 1 9 1835").enters(1, 8, 0, 1835);
        SAY.of(a).is("A STANDS for both", "clash 0 1 0 1835", BOTH).is("A STANDS for 9 alone", "clash 0 1 0 1836", 9 * 361)
            .is("it is the first for 9", "first 1 0 1836", 0);
        Story near = a.and("near 8 9 500");
        SAY.of(near).is("A STANDS for both", "clash 0 1 0 1835", BOTH).is("A STANDS for 9 alone", "clash 0 1 0 1836", 9 * 360 + 8);
        Story b = s.and("paper 0 1 9 20").enters(1, 8, 0, 20).and("paper 6 0 8 1800; paper 6 0 9 1800; paper 6 1 9 1800");
        SAY.of(b).is("B STANDS for both", "clash 0 1 0 1845", BOTH).is("B STANDS for 9 alone", "clash 0 1 0 1846", 9 * 361);
        SAY.is("B STANDS for 9 alone, near to 8", b.and("near 8 9 500"), "clash 0 1 0 1846", 8 * 360 + 9);
        Story apart = Story.marks(0, 0).and("paper 0 0 9 10").enters(0, 8, 0, 10).and("paper 0 1 300 20").enters(1, 8, 0, 20)
            .and("paper 6 0 8 1800; paper 6 0 9 1800; paper 6 1 300 1800");
        SAY.edges("B STANDS for other goods alone", apart, "clash 0 1 0 %", 20, 1845);
        SAY.edges("nor has it a first then", apart, "first 1 0 %", 20, 1845);
    }

    private static void clashOfRights() {
        Story same = Story.marks(0, 0).enters(1, 8, 0, 20).enters(0, 8, 0, 20);
        SAY.of(same).is("of one day: the lower number", "clash 0 1 0 20", BOTH).is("not the higher", "clash 1 0 0 20", -1);
        Story higher = Story.marks(0, 0).enters(1, 8, 0, 19).enters(0, 8, 0, 20);
        SAY.of(higher).is("a day ahead", "clash 1 0 0 20", BOTH).is("not a day behind", "clash 0 1 0 20", -1);
        Story byGoods = Story.marks(0, 0).enters(0, 9, 0, 10).enters(1, 8, 0, 20).and("paper 0 0 8 21");
        SAY.of(byGoods).is("RIGHT for these goods", "clash 1 0 0 21", BOTH).is("not the entry", "clash 0 1 0 21", -1);
    }

    private static void clashOfThePast() {
        Story s = Story.marks(0, 0).enters(0, 8, 5, 10);
        Story onDay = s.enters(1, 8, 0, 50).and("paper 1 0 0 50");
        SAY.of(onDay).is("RIGHT is FIRST", "right 0 8 0 50 1", 10).is("A STOOD by the day of B's RIGHT", "clash 0 1 0 50", BOTH);
        Story behind = s.enters(1, 8, 0, 50).and("paper 1 0 0 51");
        SAY.of(behind).is("RIGHT is FIRST", "right 0 8 0 51 1", 10).is("A stands", "right 0 8 0 51 2", 1)
            .is("A STOOD not by the day of B's RIGHT", "clash 0 1 0 51", -1).is("nor B by that of A's", "clash 1 0 0 51", -1);
        Story since = Story.marks(0, 0).and("paper 0 1 8 5").enters(0, 8, 0, 20).and("paper 1 1 0 50");
        SAY.is("the day of B's RIGHT, not since when B HAS them", since, "clash 0 1 0 50", BOTH);
        Story unused = Story.marks(0, 0).enters(0, 8, 0, 10);
        SAY.is("1825 days unused by then", unused.enters(1, 8, 0, 1835).and("paper 6 0 8 1900"), "clash 0 1 0 1900", BOTH);
        SAY.is("1826 days unused by then", unused.enters(1, 8, 0, 1836).and("paper 6 0 8 1900"), "clash 0 1 0 1900", -1);
        Story lapsed = unused.and("paper 6 0 8 3500");
        SAY.is("not LAPSED by then", lapsed.enters(1, 8, 0, 3840).and("paper 2 0 0 3840"), "clash 0 1 0 3841", BOTH);
        Story regained = WAY.and("paper 3 0 8 30; paper 0 0 8 30; paper 0 1 9 40; near 8 9 800");
        SAY.of(regained).is("regained, later than B's", "clash 1 0 0 40", BOTH).is("ahead of B's other goods", "clash 0 1 0 40", 8 * 360 + 9);
        Story priority = Story.marks(0, 0).enters(0, 8, 0, 10).enters(1, 8, 3, 5 + 10).and("paper 1 1 0 40");
        SAY.of(priority).is("B's RIGHT is its FIRST", "right 1 8 0 40 1", 15).is("A STOOD by then", "clash 0 1 0 40", BOTH)
            .is("not ahead of B's ENTER", "clash 0 1 0 39", -1);
        Story given = Story.marks(0, 0).enters(0, 8, 0, 10).and("paper 3 0 8 20; paper 0 1 8 20; paper 1 1 0 20");
        SAY.is("A gave up on the day of B's RIGHT", given, "clash 0 1 0 20", BOTH);
        Story others = Story.marks(0, 0).and("paper 0 0 7 10").enters(0, 8, 0, 10).and("paper 6 0 8 1800").enters(1, 8, 0, 1840)
            .and("paper 3 0 7 1850");
        SAY.of(others).is("A STOOD for 8 by then, not for 7", "clash 0 1 0 1850", BOTH)
            .is("A has given up 7 since", "clash 0 1 0 1851", BOTH).is("it is the first", "first 1 0 1851", 0);
    }

    private static void clashOfLeaves() {
        SAY.edges("LEAVE to B's OWNER, by the day", WAY.and("paper 5 0 1 30"), "clash 0 1 0 %", 20, 29);
        SAY.is("LEAVE to another PERSON", WAY.and("paper 5 0 2 30"), "clash 0 1 0 30", BOTH);
        SAY.is("LEAVE to A's own", WAY.and("paper 5 0 0 30"), "clash 0 1 0 30", BOTH);
        SAY.is("LEAVE from B to A's OWNER", WAY.and("paper 5 1 0 30"), "clash 0 1 0 30", BOTH);
        Story group = Story.marks(3, 0).enters(0, 8, 0, 10).enters(1, 8, 0, 20).and("paper 8 0 1 20");
        SAY.is("JOIN is no LEAVE", group, "clash 0 1 0 20", BOTH);
    }

    // Promise 20

    private static void bordersOfFirst() {
        SAY.edges("a mark", WAY, "first % 0 20", 1, 1);
        SAY.edges("a country", WAY, "first 1 % 20", 0, 0);
        SAY.edges("a DAY", WAY, "first 1 0 %", 20, 1835);
        Story last = Story.marks(0, 0).enters(0, 8, 15, 60000).enters(1, 8, 15, 60000);
        SAY.edges("the last DAY", last, "first 1 15 %", 60000, 60000);
        SAY.edges("the last country", last, "first 1 % 60000", 15, 15);
        SAY.edges("the first DAY", Story.marks(0, 0).enters(0, 8, 0, 0).enters(1, 8, 0, 0), "first 1 0 %", 0, 1825);
        SAY.refused("none", WAY, "first 0 0 20", "first -1 -1 -1", "first MAX MAX MAX", "first MIN MIN MIN");
        SAY.refused("no marks", new Story(), "first 0 0 0");
        SAY.refused("a mark alone", Story.marks(0).enters(0, 8, 0, 10), "first 0 0 10");
        Story many = manyMarks(99).enters(118, 8, 0, 10).enters(117, 8, 0, 11).enters(119, 8, 0, 20);
        SAY.is("the earliest of the last", many, "first 119 0 20", 118);
        SAY.edges("the last mark", many.and("paper 4 118 0 20"), "first % 0 20", 119, 119);
    }

    /** Mark 1 has RIGHT of day 7 for goods 8, told first, and of day 6 for 5; mark 0 of day 7. */
    private static Story regained(Story s) {
        return s.enters(1, 8, 0, 5).and("paper 0 1 5 6; paper 3 1 8 7; paper 0 1 8 7").enters(0, 8, 0, 7);
    }

    private static void firstOfMany() {
        Story s = Story.marks(0, 0, 0, 0).and("near 5 8 500");
        Story one = s.enters(1, 8, 0, 10).enters(0, 8, 0, 10).enters(2, 8, 0, 11).enters(3, 8, 0, 12);
        SAY.of(one).is("of one day the lowest number", "first 3 0 12", 0).is("of one day the lowest", "first 1 0 12", 0)
            .is("none ahead of the first", "first 0 0 12", -1);
        Story two = s.enters(2, 5, 0, 9).enters(1, 8, 0, 10).enters(0, 8, 0, 10).enters(3, 8, 0, 12);
        SAY.is("the earliest RIGHT, not the lowest number", two, "first 3 0 12", 2);
        SAY.is("goods that aren't near don't count", two.and("near 5 8 499"), "first 3 0 12", 0);
        Story some = s.enters(2, 300, 0, 9).enters(1, 8, 0, 10).and("paper 0 2 8 11").enters(3, 8, 0, 12);
        SAY.of(some).is("its earlier RIGHT is for other goods", "first 3 0 12", 1);
        SAY.is("for some such g", some.and("near 300 8 500"), "first 3 0 12", 2);
        Story both = s.enters(2, 5, 0, 9).enters(1, 8, 0, 10).and("paper 0 2 8 11").enters(3, 8, 0, 12);
        SAY.is("the earliest of its RIGHTS", both, "first 3 0 12", 2);
        SAY.is("the earliest, told last", regained(s).enters(3, 8, 0, 7), "first 3 0 7", 1);
        SAY.is("with LEAVE the next", both.and("paper 5 2 3 12"), "first 3 0 12", 1);
    }

    /** Mark 0 has the earlier RIGHT for 8, but from day 1836 on it STANDS for 9 alone, with a later one than mark 1. */
    private static void firstOfTheseGoods() {
        Story s = Story.marks(0, 0, 0).enters(0, 8, 0, 10).enters(1, 8, 0, 11).and("paper 0 0 9 12; near 8 9 500")
            .and("paper 6 1 8 1700; paper 6 0 9 1700").enters(2, 8, 0, 1800);
        SAY.of(s).is("the earlier RIGHT", "first 2 0 1835", 0).is("it STANDS no more for that", "first 2 0 1836", 1);
    }

    // Promise 21

    private static void bordersOfMay() {
        Story s = Story.marks(0, 0).enters(0, 8, 0, 10).enters(1, 359, 15, 10);
        SAY.edges("a PERSON", s, "may % 0 8 0 10", 0, 99);
        SAY.edges("a sign", s, "may 5 % 8 0 10", 0, 1);
        SAY.edges("goods", s, "may 5 0 % 0 10", 0, 359);
        SAY.edges("a country", s, "may 5 0 8 % 10", 0, 15);
        SAY.edges("a DAY", s, "may 5 0 8 0 %", 0, 60000);
        SAY.edges("a sign", manyMarks(0), "may 5 % 8 0 10", 0, 119);
        SAY.refused("none of all", s, "may -1 -1 -1 -1 -1", "may MAX MAX MAX MAX MAX", "may MIN MIN MIN MIN MIN");
        SAY.refused("no sign", new Story(), "may 0 0 0 0 0");
        SAY.is("none at all", Story.marks(0), "may 0 0 0 0 0", 0);
        SAY.of(s).is("the greatest", "may 5 0 359 15 10", 11).is("the lowest mark", "may 5 1 8 0 10", 10)
            .is("goods below", "may 5 0 7 0 10", 0).is("goods above", "may 5 0 9 0 10", 0)
            .is("not yet", "may 5 0 8 0 9", 0).is("to its last day", "may 5 0 8 0 1835", 10).is("behind it", "may 5 0 8 0 1836", 0);
        Story many = manyMarks(99).enters(119, 8, 0, 10);
        SAY.of(many).is("the last mark", "may 5 0 8 0 10", 129).is("its OWNER", "may 99 0 8 0 10", 1);
    }

    private static void mayAnswers() {
        Story s = Story.marks(3, 0, 0).enters(0, 8, 0, 10);
        SAY.of(s).is("neither: no", "may 5 2 8 0 10", 10).is("one of their own", "may 0 2 8 0 10", 1);
        Story joined = s.and("paper 8 0 5 20");
        SAY.of(joined).is("ahead of JOIN", "may 5 2 8 0 19", 10).is("a GROUP that they have JOINED", "may 5 2 8 0 20", 3)
            .is("another PERSON", "may 6 2 8 0 20", 10);
        Story left = joined.and("paper 5 0 5 30");
        SAY.of(left).is("ahead of LEAVE", "may 5 2 8 0 29", 3).is("with a LEAVE", "may 5 2 8 0 30", 2)
            .is("another PERSON", "may 4 2 8 0 30", 10);
        Story own = left.mark(0, 5, "d").enters(3, 8, 0, 40);
        SAY.of(own).is("of their own ahead of a LEAVE", "may 5 2 8 0 40", 1).is("not yet", "may 5 2 8 0 39", 2)
            .is("another's own", "may 0 2 8 0 40", 13);
        Story lower = new Story().mark(0, 5, "d").mark(0, 6, "d").enters(0, 8, 0, 10).enters(1, 8, 0, 11);
        SAY.of(lower).is("one of their own, but another's too", "may 5 0 8 0 11", 11).is("likewise", "may 6 0 8 0 11", 10);
        SAY.is("of their own, with LEAVE of the other", lower.and("paper 5 1 5 12"), "may 5 0 8 0 12", 1);
        Story two = Story.marks(3, 0).enters(0, 8, 0, 10).enters(1, 8, 0, 10).and("paper 8 0 5 10; paper 5 1 5 10");
        SAY.is("a LEAVE ahead of a GROUP", two, "may 5 0 8 0 10", 2);
        SAY.is("LEAVE to the OWNER is of their own", s.and("paper 5 0 0 10"), "may 0 2 8 0 10", 1);
    }

    private static void mayNotForTheEarliest() {
        Story s = Story.marks(0, 0, 0, 0).and("near 5 8 500");
        Story one = s.enters(2, 8, 0, 10).enters(1, 8, 0, 10).enters(0, 8, 0, 11);
        SAY.is("the earliest RIGHT, of one day the lowest number", one, "may 9 3 8 0 11", 11);
        SAY.is("of those that are not theirs", one, "may 1 3 8 0 11", 12);
        Story such = s.enters(1, 300, 0, 5).enters(0, 8, 0, 11).and("paper 0 1 8 12");
        SAY.of(such).is("not RIGHT for others", "may 9 3 8 0 12", 10).is("that for others", "may 9 3 300 0 12", 11)
            .is("near goods", "may 9 3 5 0 12", 10);
        SAY.is("the earliest of its RIGHTS, told first", s.enters(1, 8, 0, 5).enters(0, 8, 0, 6).and("paper 0 1 5 7"),
            "may 9 3 8 0 7", 11);
        SAY.is("the earliest of its RIGHTS, told last", regained(s), "may 9 3 8 0 7", 11);
        SAY.is("not near below the LEVEL", such.and("near 5 8 499"), "may 9 3 5 0 12", 0);
    }

    private static void maySigns() {
        Story drawn = new Story().mark(1, 0, "d").mark(1, 1, "d").mark(0, 2, "e").enters(0, 8, 0, 10);
        SAY.of(drawn).is("the sign itself, LIKE 0", "may 9 0 8 0 10", 10).is("another one, LIKE 0", "may 9 1 8 0 10", 0)
            .is("its OWNER", "may 0 0 8 0 10", 1).is("another word", "may 9 2 8 0 10", 0);
        Story alike = new Story().mark(0, 0, "aaaaaaaaaa").mark(0, 1, "aaaaaaabbb").enters(0, 8, 0, 10);
        SAY.is("ALIKE at the LEVEL", alike, "may 9 1 8 0 10", 10);
        SAY.is("not ALIKE below it", alike.and("levels 701 500"), "may 9 1 8 0 10", 0);
        SAY.is("the sign itself at every LEVEL", alike.and("levels 1000 1000"), "may 9 0 8 0 10", 10);
        Story known = Story.marks(4, 0).enters(0, 8, 0, 10).and("paper 7 0 0 20");
        SAY.of(known).is("ahead of KNOWN", "may 9 1 300 0 19", 0).is("KNOWN is near to all", "may 9 1 300 0 20", 10)
            .is("also to the first", "may 9 1 0 0 20", 10).is("not where it doesn't STAND", "may 9 1 300 1 20", 0)
            .is("nor behind its last day", "may 9 1 300 0 1836", 0);
        Story struck = Story.marks(0, 0).enters(0, 8, 0, 10).and("paper 4 0 0 20");
        SAY.of(struck).is("ahead of STRIKE", "may 9 1 8 0 19", 10).is("STRUCK", "may 9 1 8 0 20", 0)
            .is("its own, STRUCK", "may 0 0 8 0 20", 0);
        Story given = Story.marks(0, 0).enters(0, 8, 0, 10).and("paper 3 0 8 20");
        SAY.of(given).is("given up that day", "may 9 1 8 0 20", 10).is("behind it", "may 9 1 8 0 21", 0);
    }

    // Promise 22

    private static void bordersOfWatch() {
        SAY.refused("no ENTER", new Story(), "watch 0", "watch -1", "watch MIN", "watch MAX");
        SAY.refused("no ENTER, but GOODS", Story.marks(0, 0).and("paper 0 0 8 10; paper 0 1 8 10"), "watch 0", "watch -1");
        SAY.refused("ENTER of the first", Story.marks(0, 0).enters(0, 8, 0, 10), "watch 0", "watch 1");
        SAY.edges("the i-th", WAY, "watch %", 0, 0);
        SAY.is("the other", WAY, "watch 0", 0);
        SAY.refused("ENTER taken back", WAY.and("undo"), "watch 0");
        StringBuilder all = new StringBuilder("levels 700 500");
        for (int m = 0; m < 120; m++) {
            all.append("; paper 0 ").append(m).append(" 8 10; paper 1 ").append(m).append(" 0 10");
        }
        Story full = manyMarks(99).and(all.toString());
        Asked asked = SAY.of(full);
        for (int i = 0; i < 119; i++) {
            asked.is("by numbers", "watch " + i, i);
        }
        asked.is("no more", "watch 119", -1);
        SAY.edges("the i-th", full, "watch %", 0, 118);
    }

    private static void watchedOnes() {
        Story s = new Story().mark(0, 0, "aaaaaaaaaa").mark(0, 1, "aaaaaaabbb").mark(0, 0, "aaaaaaaaaa").mark(4, 3, "aaaaaaaaaa");
        Story told = s.and("near 8 9 500").enters(1, 8, 0, 10).enters(3, 300, 0, 10).enters(2, 9, 0, 10).enters(0, 9, 0, 20);
        SAY.of(told).is("not of the same OWNER, nor far", "watch 0", 1).is("none more", "watch 1", -1);
        SAY.is("not ALIKE", told.and("levels 701 500"), "watch 0", -1);
        SAY.is("not near", told.and("levels 700 501"), "watch 0", -1);
        SAY.of(told.and("paper 7 3 0 20")).is("that other one KNOWN by that day", "watch 1", 3).is("and no more", "watch 2", -1);
        SAY.of(told.and("paper 7 3 0 21")).is("KNOWN behind that day", "watch 1", -1);
        SAY.of(told.and("paper 4 1 0 20")).is("STRUCK by that day", "watch 0", -1);
        SAY.of(told.and("paper 4 1 0 21")).is("STRUCK behind that day", "watch 0", 1);
        SAY.of(told.and("paper 3 1 8 20")).is("given up that day", "watch 0", 1);
        SAY.of(told.and("paper 3 0 9 20")).is("the entered one gave up that day", "watch 0", 1);
        SAY.of(told.and("paper 1 0 1 21")).is("ENTER in another country", "watch 0", -1);
        SAY.of(told.and("paper 1 0 1 21; undo")).is("taken back", "watch 0", 1);
        Story known = s.enters(1, 300, 0, 10).enters(3, 8, 0, 20).and("paper 7 3 0 20");
        SAY.of(known).is("the entered one KNOWN is not near", "watch 0", -1);
        Story later = s.and("near 8 9 500").enters(0, 9, 0, 10).enters(1, 8, 0, 1835);
        SAY.is("STANDS to its last day", later, "watch 0", 0);
        Story over = s.and("near 8 9 500").enters(0, 9, 0, 10).enters(1, 8, 0, 1836);
        SAY.is("not behind it", over, "watch 0", -1);
        Story others = s.and("paper 0 0 300 10").enters(0, 9, 0, 10).and("paper 6 0 300 1800").enters(1, 9, 0, 1836);
        SAY.is("STANDS for other goods alone", others, "watch 0", -1);
        Story none = s.and("paper 0 0 9 5; paper 1 0 1 5; paper 3 0 9 6").enters(1, 9, 0, 6).and("paper 1 0 0 7");
        SAY.is("nothing that the entered one HAS", none, "watch 0", -1);
        Story behind = s.enters(0, 9, 0, 10).and("paper 0 0 8 11").enters(1, 8, 0, 11).and("paper 0 1 7 12");
        SAY.of(behind).is("goods of that day", "watch 0", 0).is("and no more", "watch 1", -1);
        Story same = s.enters(1, 8, 0, 10).enters(0, 8, 0, 10).and("paper 5 1 0 10");
        SAY.is("LEAVE and the order of RIGHTS don't count", same, "watch 0", 1);
        SAY.is("a struck one that enters", s.enters(1, 8, 0, 10).enters(0, 8, 1, 10).and("paper 4 0 0 10; paper 1 0 0 10"), "watch 0", 1);
    }

    // Promise 23

    private static void bordersOfAbout() {
        Story s = Story.marks(0, 3).and("near 1 2 3; near 4 5 6; near 7 8 9; levels 44 55").enters(0, 8, 0, 60000);
        SAY.edges("what", new Story(), "about %", 0, 5);
        SAY.edges("what", s, "about %", 0, 5);
        SAY.of(s).is("marks", "about 0", 2).is("papers", "about 1", 2).is("the DAY of the latest", "about 2", 60000)
            .is("pairs", "about 3", 3).is("the first LEVEL", "about 4", 44).is("the second", "about 5", 55);
        SAY.is("0 without", Story.marks(0), "about 2", 0);
        SAY.is("0 without any more", Story.marks(0).and("paper 0 0 8 70; undo"), "about 2", 0);
        SAY.is("0 of day 0", Story.marks(0).and("paper 0 0 8 0"), "about 2", 0);
        SAY.is("marks", manyMarks(0), "about 0", 120);
    }

    public static void main(String[] args) {
        whatAMarkHas();
        firstAndTerm();
        struckOnes();
        rightOfFirst();
        standingWithoutUse();
        goodsStayWhenOthersGo();
        standingUntilLapsed();
        bordersOfRight();
        bordersOfState();
        bordersOfClash();
        leastGoods();
        clashOfOwners();
        clashOfLevels();
        clashOfKnownOnes();
        clashOfStanding();
        clashOfTheseGoods();
        clashOfRights();
        clashOfThePast();
        clashOfLeaves();
        bordersOfFirst();
        firstOfMany();
        firstOfTheseGoods();
        bordersOfMay();
        mayAnswers();
        mayNotForTheEarliest();
        maySigns();
        bordersOfWatch();
        watchedOnes();
        bordersOfAbout();
        SAY.end();
    }
}
