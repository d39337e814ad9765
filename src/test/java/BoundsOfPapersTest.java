/** The sentences of promises 10 to 13 and of Terms II about papers that name a boundary, each with a test of its own. */
public final class BoundsOfPapersTest {
    private static final Sentences SAY = new Sentences();

    /** A GROUP mark and a KNOWN one, for goods 0, 8 and 359, entered in country 3, all of day 100. */
    private static final Story TWO = Story.marks(3, 4).and("paper 0 0 0 100; paper 0 0 359 100; paper 0 1 0 100")
        .and("paper 0 1 359 100").enters(0, 8, 3, 100).enters(1, 8, 3, 100);

    private static Story manyMarks() {
        Story s = new Story();
        for (int i = 0; i < 120; i++) {
            s = s.and("mark 0 " + i % 100);
        }
        return s;
    }

    // Promise 10: there are 400; no such kind, mark, x, DAY, or it is below that of the paper ahead

    private static void fourHundredPapers() {
        Story s = Story.marks(3, 0).enters(0, 8, 0, 7);
        SAY.is("the first paper", Story.marks(0), "paper 0 0 8 7", 0);
        SAY.is("the 400th", s.papersUpTo(399, "paper 6 0 8 7"), "paper 6 0 8 7", 399);
        Story full = s.papersUpTo(400, "paper 6 0 8 7");
        SAY.is("papers", full, "about 1", 400);
        SAY.refused("there are 400", full, "paper 0 0 9 7", "paper 0 1 8 7", "paper 1 0 1 7", "paper 2 0 0 3657", "paper 3 0 8 7",
            "paper 4 0 0 7", "paper 5 0 0 7", "paper 6 0 8 8", "paper 8 0 0 7");
        SAY.of(full.and("undo")).is("one taken back", "paper 8 0 99 9", 399).is("and again 400", "paper 8 0 98 9", -1)
            .is("papers", "about 1", 400).is("its DAY", "about 2", 9);
    }

    private static void kindsOfPapers() {
        SAY.edges("a kind", TWO.and("paper 3 0 0 100"), "paper % 0 0 101", 0, 8);
        SAY.edges("a kind", Story.marks(3).enters(0, 8, 3, 100), "paper % 0 0 100", 0, 8);
        SAY.refused("no kind of no mark", new Story(), "paper -1 0 0 0", "paper 9 0 0 0", "paper MIN 0 0 0", "paper MAX 0 0 0");
    }

    /** Of each kind a call that TWO takes, but for its '%'. */
    private static void marksOfPapers() {
        String[] both = {"paper 0 % 5 100", "paper 1 % 5 100", "paper 2 % 0 3750", "paper 3 % 8 100", "paper 4 % 0 100",
            "paper 5 % 5 100", "paper 6 % 8 100"};
        for (String call : both) {
            SAY.edges("a mark", TWO, call, 0, 1);
        }
        SAY.edges("a mark, KNOWN", TWO, "paper 7 % 0 100", 1, 1);
        SAY.edges("a mark, JOIN", TWO, "paper 8 % 0 100", 0, 0);
        SAY.edges("a mark", manyMarks(), "paper 0 % 5 0", 0, 119);
        SAY.edges("a mark", manyMarks().and("paper 0 0 5 0; paper 0 119 5 0"), "paper 1 % 5 0", 0, 119);
    }

    private static void whatPapersAreAbout() {
        SAY.edges("goods", Story.marks(0), "paper 0 0 % 100", 0, 359);
        SAY.edges("a country", Story.marks(0).and("paper 0 0 8 100"), "paper 1 0 % 100", 0, 15);
        SAY.edges("else 0, RENEW", TWO, "paper 2 0 % 3750", 0, 0);
        SAY.edges("goods given up", TWO, "paper 3 0 % 100", 0, 359);
        SAY.edges("else 0, STRIKE", TWO, "paper 4 0 % 100", 0, 0);
        SAY.edges("a PERSON with LEAVE", TWO, "paper 5 0 % 100", 0, 99);
        SAY.edges("goods shown", TWO, "paper 6 0 % 100", 0, 359);
        SAY.edges("else 0, KNOWN", TWO, "paper 7 1 % 100", 0, 0);
        SAY.edges("a PERSON who joins", TWO, "paper 8 0 % 100", 0, 99);
    }

    private static void daysOfPapers() {
        SAY.edges("a DAY", Story.marks(0), "paper 0 0 5 %", 0, 60000);
        String[] calls = {"paper 0 0 5 %", "paper 0 1 5 %", "paper 1 0 5 %", "paper 3 0 8 %", "paper 4 0 0 %", "paper 5 0 5 %",
            "paper 6 0 8 %", "paper 7 1 0 %", "paper 8 0 5 %"};
        for (String call : calls) {
            SAY.edges("a DAY not below that ahead", TWO, call, 100, 60000);
            SAY.edges("also of another mark's", TWO.mark(0, 5, "").and("paper 0 2 5 207"), call, 207, 60000);
            SAY.edges("the last DAY alone", TWO.mark(0, 5, "").and("paper 0 2 5 60000"), call, 60000, 60000);
            SAY.edges("that ahead taken back", TWO.mark(0, 5, "").and("paper 0 2 5 207; undo"), call, 100, 60000);
            SAY.edges("a refused one is not ahead", TWO.tries("paper 1 0 3 207; paper 0 0 8 300"), call, 100, 60000);
        }
        SAY.edges("the first DAY", Story.marks(0).and("paper 0 0 5 0"), "paper 0 0 6 %", 0, 60000);
    }

    // Promise 10: it can't be

    private static void goodsThatItHas() {
        Story s = Story.marks(0, 0).enters(0, 8, 0, 10);
        SAY.refused("GOODS that it HAS by that day", s, "paper 0 0 8 10", "paper 0 0 8 11", "paper 0 0 8 60000");
        SAY.is("other GOODS", s, "paper 0 0 9 10", 2);
        SAY.is("another mark's", s, "paper 0 1 8 10", 2);
        Story given = s.and("paper 3 0 8 20");
        SAY.is("a GIVE of that very day aside", given, "paper 0 0 8 20", 3);
        SAY.is("a GIVE of the day ahead", given, "paper 0 0 8 21", 3);
        SAY.refused("GOODS again behind a GIVE of that very day", given.and("paper 0 0 8 20"), "paper 0 0 8 20", "paper 0 0 8 21");
        SAY.is("GIVE and GOODS and GIVE of one day", given.and("paper 0 0 8 20; paper 3 0 8 20"), "paper 0 0 8 20", 5);
        SAY.is("GOODS and GIVE of one day", s.and("paper 3 0 8 10"), "paper 0 0 8 10", 3);
        SAY.refused("GOODS of a mark that isn't entered", Story.marks(0).and("paper 0 0 8 5"), "paper 0 0 8 5", "paper 0 0 8 6");
        SAY.is("GOODS of a mark that is STRUCK", s.and("paper 4 0 0 20"), "paper 0 0 9 20", 3);
        SAY.is("GOODS of a mark that has LAPSED", s, "paper 0 0 9 3841", 2);
    }

    private static Story goods(int count) {
        StringBuilder b = new StringBuilder("paper 1 0 0 10");
        for (int i = 1; i < count; i++) {
            b.append("; paper 0 0 ").append(i == 19 ? 359 : i).append(" 10");
        }
        return Story.marks(0, 0).and("paper 0 0 0 10").and(b.toString());
    }

    private static void twentyGoods() {
        for (int count = 1; count <= 20; count++) {
            SAY.is("how many it HAS", goods(count), "state 0 10 4", count);
        }
        SAY.is("the 20th", goods(19), "paper 0 0 50 10", 20);
        SAY.refused("20 that it HAS", goods(20), "paper 0 0 50 10", "paper 0 0 50 11", "paper 0 0 358 60000");
        SAY.is("another mark's", goods(20), "paper 0 1 50 10", 21);
        for (int g : new int[] {0, 10, 359}) {
            Story given = goods(20).and("paper 3 0 " + g + " 20");
            SAY.is("given up, it HAS them that day", given, "state 0 20 4", 20);
            SAY.refused("20 that it HAS, one given up that day", given, "paper 0 0 50 20", "paper 0 0 " + g + " 20");
            SAY.is("the day behind it", given, "state 0 21 4", 19);
            SAY.is("the day behind it", given, "paper 0 0 50 21", 22);
            SAY.refused("and no more", given.and("paper 0 0 50 21"), "paper 0 0 51 21", "paper 0 0 " + g + " 21");
            Story other = given.and("paper 0 0 50 21");
            SAY.of(other).is("since when", "right 0 50 0 21 0", 21).is("not any more", "right 0 " + g + " 0 21 0", -1)
                .is("the last but one", "right 0 18 0 21 0", 10).is("goods", "state 0 21 4", 20);
        }
        SAY.is("19 and one given up that day", goods(19).and("paper 3 0 5 20"), "paper 0 0 5 20", 21);
        SAY.is("19 and one given up that day", goods(19).and("paper 3 0 5 20"), "paper 0 0 50 20", 21);
    }

    private static void entries() {
        Story bare = Story.marks(0, 0);
        SAY.refused("ENTER of a mark without any paper GOODS", bare, "paper 1 0 0 10", "paper 1 0 15 0", "paper 1 1 0 60000");
        SAY.refused("another mark's GOODS don't count", bare.and("paper 0 1 8 10"), "paper 1 0 0 10");
        SAY.refused("nor where that is entered", bare.enters(1, 8, 0, 10), "paper 1 0 0 10", "paper 1 0 1 11");
        SAY.refused("GOODS taken back don't count", bare.and("paper 0 0 8 10; undo"), "paper 1 0 0 10");
        SAY.is("GOODS of that very day", bare.and("paper 0 0 8 10"), "paper 1 0 0 10", 1);
        Story entered = bare.enters(0, 8, 7, 10).and("paper 0 1 8 10");
        SAY.refused("ENTER where it is entered", entered, "paper 1 0 7 10", "paper 1 0 7 11", "paper 1 0 7 60000");
        SAY.is("in another country", entered, "paper 1 0 6 10", 3);
        SAY.is("in another country", entered, "paper 1 0 8 10", 3);
        SAY.is("another mark there", entered, "paper 1 1 7 10", 3);
        SAY.is("taken back", bare.enters(0, 8, 7, 10).and("undo"), "paper 1 0 7 10", 1);
        SAY.is("GOODS all given up", entered.and("paper 3 0 8 11"), "paper 1 0 6 20", 4);
        SAY.is("STRUCK", entered.and("paper 4 0 0 11"), "paper 1 0 6 20", 4);
        SAY.is("LAPSED", entered, "paper 1 0 6 3841", 3);
        Story all = bare.and("paper 0 0 8 10");
        for (int c = 0; c < 16; c++) {
            all = all.and("paper 1 0 " + c + " 10");
            SAY.is("countries", all, "state 0 10 5", c + 1);
        }
        SAY.refused("entered in all", all, "paper 1 0 0 10", "paper 1 0 15 10", "paper 1 0 16 10");
    }

    private static void renewals() {
        Story s = Story.marks(0, 0).and("paper 0 0 8 5; paper 0 1 8 5");
        SAY.refused("RENEW of a mark that isn't entered", s, "paper 2 0 0 5", "paper 2 0 0 3655", "paper 2 1 0 3655");
        Story entered = s.and("paper 1 0 0 10");
        SAY.edges("365 days ahead of its TERM's end to 180 behind it", entered, "paper 2 0 0 %", 3660 - 365, 3660 + 180);
        SAY.refused("of another mark that isn't", entered, "paper 2 1 0 3660");
        SAY.edges("by its first ENTER", entered.and("paper 1 0 1 300; paper 1 1 1 300"), "paper 2 0 0 %", 3295, 3840);
        SAY.edges("by its own ENTER", entered.and("paper 1 0 1 300; paper 1 1 1 300"), "paper 2 1 0 %", 3585, 4130);
        for (int day : new int[] {3295, 3660, 3840}) {
            Story once = entered.and("paper 2 0 0 " + day);
            SAY.is("its TERM's end", once, "state 0 " + day + " 1", 7310);
            SAY.edges("again", once, "paper 2 0 0 %", 7310 - 365, 7310 + 180);
            SAY.refused("again at once", once, "paper 2 0 0 " + day);
        }
        Story twice = entered.and("paper 2 0 0 3295; paper 2 0 0 7490");
        SAY.edges("a third time", twice, "paper 2 0 0 %", 10960 - 365, 10960 + 180);
        SAY.edges("of a mark that is STRUCK", entered.and("paper 4 0 0 20"), "paper 2 0 0 %", 3295, 3840);
        Story late = Story.marks(0).enters(0, 8, 0, 56715);
        SAY.edges("the last DAY", late, "paper 2 0 0 %", 60000, 60000);
        SAY.refused("TERM's end behind all DAYS", Story.marks(0).enters(0, 8, 0, 56716), "paper 2 0 0 60000");
        Story early = Story.marks(0).enters(0, 8, 0, 0);
        SAY.edges("of day 0", early, "paper 2 0 0 %", 3285, 3830);
    }

    /** GIVE (3) and USE (6) are refused alike. */
    private static void goodsThatItHasnt() {
        for (int kind : new int[] {3, 6}) {
            String paper = "paper " + kind + " 0 ";
            Story s = Story.marks(0, 0).enters(0, 8, 0, 10).enters(1, 9, 0, 10);
            SAY.refused("goods that it hasn't", s, paper + "9 10", paper + "7 10", paper + "0 10", paper + "359 11");
            SAY.is("goods of that very day", s, paper + "8 10", 4);
            SAY.is("goods of long ago", s, paper + "8 60000", 4);
            Story given = s.and("paper 3 0 8 20");
            SAY.refused("of which the latest is GIVE, of that day", given, paper + "8 20");
            SAY.refused("of which the latest is GIVE, of an earlier day", given, paper + "8 21", paper + "8 60000");
            SAY.is("GOODS again that day", given.and("paper 0 0 8 20"), paper + "8 20", 6);
            SAY.is("GOODS again later", given.and("paper 0 0 8 30"), paper + "8 30", 6);
            SAY.is("GIVE taken back", given.and("undo"), paper + "8 20", 4);
            SAY.refused("not entered", Story.marks(0, 0).and("paper 0 0 8 10").enters(1, 8, 0, 10), paper + "8 10", paper + "8 11");
            SAY.is("STRUCK", s.and("paper 4 0 0 20"), paper + "8 20", 5);
            SAY.is("LAPSED", s, paper + "8 3841", 4);
        }
        SAY.is("USE twice a day", Story.marks(0).enters(0, 8, 0, 10).and("paper 6 0 8 10"), "paper 6 0 8 10", 3);
    }

    private static void strikes() {
        Story s = Story.marks(0, 0).enters(0, 8, 0, 10).enters(1, 8, 0, 10);
        SAY.refused("STRIKE of one that is STRUCK", s.and("paper 4 0 0 20"), "paper 4 0 0 20", "paper 4 0 0 21", "paper 4 0 0 60000");
        SAY.is("another one", s.and("paper 4 0 0 20"), "paper 4 1 0 20", 5);
        SAY.is("taken back", s.and("paper 4 0 0 20; undo"), "paper 4 0 0 20", 4);
        SAY.refused("not entered", Story.marks(0).and("paper 0 0 8 10"), "paper 4 0 0 10");
        SAY.refused("by an opposition", s.and("oppose 1 0 10"), "paper 4 1 0 10", "paper 4 1 0 11");
        SAY.is("LAPSED", s, "paper 4 0 0 3841", 4);
    }

    private static void knownOnes() {
        for (int kind = 0; kind < 4; kind++) {
            Story s = Story.marks(kind).enters(0, 8, 0, 10);
            SAY.refused("KNOWN of another KIND", s, "paper 7 0 0 10", "paper 7 0 0 60000");
        }
        Story s = Story.marks(4, 4).and("paper 0 1 8 5").enters(0, 8, 0, 10);
        SAY.is("KNOWN", s, "paper 7 0 0 10", 3);
        SAY.refused("KNOWN of a mark that isn't entered", s, "paper 7 1 0 10");
        SAY.refused("or again", s.and("paper 7 0 0 10"), "paper 7 0 0 10", "paper 7 0 0 11", "paper 7 0 0 60000");
        SAY.is("another one", s.and("paper 7 0 0 10; paper 1 1 0 10"), "paper 7 1 0 10", 5);
        SAY.is("taken back", s.and("paper 7 0 0 10; undo"), "paper 7 0 0 10", 3);
    }

    /** LEAVE (5) and JOIN (8) are refused alike, but for the KIND. */
    private static void personsThatHaveIt() {
        for (int kind : new int[] {5, 8}) {
            String paper = "paper " + kind + " 0 ";
            Story s = Story.marks(3, 3).enters(0, 8, 0, 10).enters(1, 8, 0, 10);
            for (int person : new int[] {0, 50, 99}) {
                Story told = s.and(paper + person + " 20");
                SAY.refused("a PERSON that has it", told, paper + person + " 20", paper + person + " 21", paper + person + " 60000");
                SAY.is("another PERSON", told, paper + (person == 0 ? 1 : person - 1) + " 20", 5);
                SAY.is("another mark's", told, "paper " + kind + " 1 " + person + " 20", 5);
                SAY.is("taken back", told.and("undo"), paper + person + " 20", 4);
                SAY.is("the other kind is another", told, "paper " + (13 - kind) + " 0 " + person + " 20", 5);
            }
            SAY.refused("not entered", Story.marks(3).and("paper 0 0 8 10"), paper + "5 10");
            SAY.is("STRUCK", s.and("paper 4 0 0 20"), paper + "5 20", 5);
        }
        for (int kind : new int[] {0, 1, 2, 4}) {
            Story s = Story.marks(kind).enters(0, 8, 0, 10);
            SAY.refused("JOIN of another KIND", s, "paper 8 0 5 10", "paper 8 0 0 60000");
            SAY.is("LEAVE of every KIND", s, "paper 5 0 5 10", 2);
        }
    }

    /** What is x of one kind is not taken for another's: 0 of RENEW is no goods, PERSON 8 no goods 8. */
    private static void papersOfOneKindAlone() {
        Story s = Story.marks(3, 4).enters(0, 0, 0, 10).and("paper 0 0 8 10").enters(1, 0, 0, 10).and("paper 0 1 8 10; paper 6 0 0 3000")
            .and("paper 6 1 0 3000; paper 6 0 8 3000");
        String[] papers = {"paper 2 0 0 3500", "paper 5 0 8 3500", "paper 5 0 0 3500", "paper 8 0 8 3500", "paper 8 0 0 3500",
            "paper 6 0 0 3500", "paper 6 0 8 3500", "paper 7 1 0 3500", "paper 0 1 5 3500", "paper 1 1 8 3500", "paper 4 1 0 3500"};
        for (String paper : papers) {
            SAY.of(s.and(paper)).is("goods 0", "right 0 0 0 3501 0", 10).is("goods 8", "right 0 8 0 3501 0", 10)
                .is("goods", "state 0 3501 4", 2).is("countries", "state 0 3501 5", 1).is("not STRUCK", "state 0 3501 3", 0)
                .is("its TERM", "state 0 3501 1", paper.startsWith("paper 2") ? 7310 : 3660)
                .is("stands", "right 0 0 0 3501 2", 1).is("FIRST", "state 0 3501 0", 10)
                .is("another mark's goods", "state 1 3501 4", paper.startsWith("paper 0") ? 3 : 2)
                .is("stands to its last day", "right 1 0 0 3501 2", paper.startsWith("paper 4") ? 0 : 1);
        }
        Story used = Story.marks(4, 0).enters(0, 8, 0, 10).enters(1, 300, 0, 10);
        for (String paper : new String[] {"paper 6 0 8 20", "paper 5 0 0 20", "paper 0 0 7 20", "paper 1 0 7 20", "paper 6 1 300 20"}) {
            SAY.is("is not KNOWN for it", used.and(paper), "clash 0 1 0 20", -1);
            SAY.is("and can be KNOWN", used.and(paper), "paper 7 0 0 20", 5);
            SAY.is("nor STRUCK, and can be", used.and(paper), "paper 4 0 0 20", 5);
        }
    }

    private static void marksThatArentEntered() {
        for (int markKind : new int[] {3, 4}) {
            Story bare = Story.marks(markKind);
            Story goods = bare.and("paper 0 0 0 10");
            Story left = goods.and("paper 1 0 0 10; undo");
            for (int kind = 2; kind <= 8; kind++) {
                SAY.refused("a mark without papers", bare, "paper " + kind + " 0 0 10", "paper " + kind + " 0 0 3660");
                SAY.refused("all but GOODS and ENTER", goods, "paper " + kind + " 0 0 10", "paper " + kind + " 0 0 3660");
                SAY.refused("ENTER taken back", left, "paper " + kind + " 0 0 10", "paper " + kind + " 0 0 3660");
            }
            SAY.is("GOODS of one that isn't", goods, "paper 0 0 1 10", 1);
        }
    }

    // Promise 11

    private static final Story WAY = Story.marks(0, 0, 0).enters(0, 8, 7, 10).enters(1, 8, 7, 20);

    private static void bordersOfOpposing() {
        SAY.edges("not more than 90 days ahead", WAY, "oppose 1 0 %", 20, 110);
        SAY.edges("the mark that is opposed", WAY, "oppose % 0 20", 1, 1);
        SAY.edges("the mark that opposes", WAY, "oppose 1 % 20", 0, 0);
        SAY.refused("no such marks", WAY, "oppose -1 -1 20", "oppose 3 3 20", "oppose MIN MIN 20", "oppose MAX MAX 20");
        SAY.refused("no clash", WAY, "oppose 0 1 20", "oppose 1 1 20", "oppose 0 0 20", "oppose 2 0 20", "oppose 1 2 20");
        Story many = manyMarks().enters(118, 8, 7, 10).enters(119, 8, 7, 20);
        SAY.edges("the last mark", many, "oppose % 118 20", 119, 119);
        SAY.edges("by the last but one", many, "oppose 119 % 20", 118, 118);
        SAY.is("the paper's number", WAY, "oppose 1 0 20", 4);
        SAY.of(WAY.and("oppose 1 0 110")).is("a STRIKE", "paperOf 4 0", 4).is("of that", "paperOf 4 1", 1).is("x", "paperOf 4 2", 0)
            .is("its DAY", "paperOf 4 3", 110).is("no other paper", "about 1", 5).is("STRUCK", "state 1 110 3", 1)
            .is("from that day on", "state 1 109 3", 0).is("not the other", "state 0 110 3", 0);
        SAY.refused("STRUCK already", WAY.and("oppose 1 0 30"), "oppose 1 0 30", "oppose 1 0 31");
        SAY.is("taken back", WAY.and("oppose 1 0 30; undo"), "oppose 1 0 30", 4);
        Story last = Story.marks(0, 0).enters(0, 8, 7, 59990).enters(1, 8, 7, 59995);
        SAY.edges("the last DAY", last, "oppose 1 0 %", 59995, 60000);
        SAY.edges("the first DAY", Story.marks(0, 0).enters(0, 8, 7, 0).enters(1, 8, 7, 0), "oppose 1 0 %", 0, 90);
    }

    private static void opposingInSomeCountry() {
        for (int c = 0; c < 16; c++) {
            Story s = Story.marks(0, 0).enters(0, 8, c, 10).enters(1, 8, c, 20);
            SAY.is("in some country", s, "oppose 1 0 20", 4);
            Story apart = Story.marks(0, 0).enters(0, 8, c, 10).enters(1, 8, 15 - c, 20);
            SAY.refused("in no country", apart, "oppose 1 0 20");
        }
        Story later = WAY.and("paper 1 1 3 100; paper 1 0 3 100");
        SAY.edges("FIRST, not the country's ENTER", later, "oppose 1 0 %", 100, 110);
    }

    private static void opposingWhereThePaperCantBe() {
        Story full = WAY.papersUpTo(400, "paper 6 0 8 20");
        SAY.refused("there are 400", full, "oppose 1 0 20", "oppose 1 0 110");
        SAY.is("the 400th", WAY.papersUpTo(399, "paper 6 0 8 20"), "oppose 1 0 20", 399);
        Story ahead = WAY.and("paper 0 2 8 50");
        SAY.is("it CLASHES by that day", ahead, "clash 0 1 7 49", 8 * 361);
        SAY.edges("a DAY below that of the paper ahead", ahead, "oppose 1 0 %", 50, 110);
    }

    private static void opposingWithoutClash() {
        SAY.refused("LEAVE", WAY.and("paper 5 0 1 20"), "oppose 1 0 20", "oppose 1 0 21");
        SAY.is("LEAVE to another", WAY.and("paper 5 0 2 20"), "oppose 1 0 20", 5);
        SAY.refused("the opposing one STRUCK", WAY.and("paper 4 0 0 20"), "oppose 1 0 20");
        SAY.edges("its goods given up", WAY.and("paper 3 0 8 30"), "oppose 1 0 %", 30, 30);
        SAY.edges("the other's goods given up", WAY.and("paper 3 1 8 30"), "oppose 1 0 %", 30, 30);
        Story owner = new Story().mark(0, 5, "d").mark(0, 5, "d").enters(0, 8, 7, 10).enters(1, 8, 7, 20);
        SAY.refused("one OWNER", owner, "oppose 1 0 20");
        Story unlike = new Story().mark(0, 5, "d").mark(0, 6, "e").enters(0, 8, 7, 10).enters(1, 8, 7, 20);
        SAY.refused("not ALIKE", unlike, "oppose 1 0 20");
        SAY.refused("not entered", Story.marks(0, 0).enters(0, 8, 7, 10).and("paper 0 1 8 20"), "oppose 1 0 20");
        SAY.refused("without any paper", Story.marks(0, 0), "oppose 1 0 0", "oppose 0 1 0");
        SAY.refused("without any mark", new Story(), "oppose 0 0 0", "oppose 1 0 0");
    }

    // Promises 12 and 13

    private static void takingBack() {
        SAY.refused("without a paper", new Story(), "undo");
        SAY.refused("without a paper, with marks", Story.marks(0, 3), "undo");
        SAY.refused("the only one taken back", Story.marks(0).and("paper 0 0 8 5; undo"), "undo");
        Asked asked = SAY.of(Story.marks(0).enters(0, 8, 0, 7).papersUpTo(400, "paper 6 0 8 9"));
        for (int left = 399; left >= 300; left--) {
            asked.is("how many are left", "undo", left);
        }
        asked.is("papers", "about 1", 300).is("the one behind", "paperOf 300 0", -1).is("the latest", "paperOf 299 0", 6);
        Story s = Story.marks(0).and("paper 0 0 8 5; paper 1 0 0 6");
        SAY.of(s).is("left", "undo", 1).is("the DAY of the latest", "about 2", 5).is("not entered", "state 0 6 0", -1)
            .is("left", "undo", 0).is("no DAY", "about 2", 0).is("no goods", "state 0 6 4", 0).is("none", "undo", -1)
            .is("none still", "undo", -1).is("an earlier DAY", "paper 0 0 9 0", 0).is("left", "undo", 0);
        SAY.is("the mark stays", s.and("undo; undo"), "about 0", 1);
        SAY.refused("a refused undo", s.and("undo; undo"), "undo");
    }

    private static void bordersOfPaperOf() {
        SAY.refused("no papers", Story.marks(0), "paperOf 0 0", "paperOf -1 0", "paperOf MIN 0", "paperOf MAX 0");
        SAY.edges("paper i", Story.marks(0).and("paper 0 0 8 5"), "paperOf % 0", 0, 0);
        SAY.edges("paper i", TWO, "paperOf % 3", 0, 7);
        SAY.edges("what", TWO, "paperOf 0 %", 0, 3);
        SAY.edges("what", TWO, "paperOf 7 %", 0, 3);
        Story full = Story.marks(0).enters(0, 8, 0, 7).papersUpTo(399, "paper 6 0 8 9").and("paper 3 0 8 60000");
        SAY.edges("paper i", full, "paperOf % 1", 0, 399);
        SAY.of(full).is("its kind", "paperOf 399 0", 3).is("its mark", "paperOf 399 1", 0).is("x", "paperOf 399 2", 8)
            .is("its DAY", "paperOf 399 3", 60000).is("that ahead", "paperOf 398 0", 6).is("the first", "paperOf 0 0", 0);
        SAY.edges("one taken back", full.and("undo"), "paperOf % 0", 0, 398);
        Story most = Story.marks(3).and("paper 0 0 359 60000; paper 1 0 15 60000; paper 8 0 99 60000");
        int[][] due = {{0, 0, 359, 60000}, {1, 0, 15, 60000}, {8, 0, 99, 60000}};
        for (int i = 0; i < due.length; i++) {
            for (int what = 0; what < 4; what++) {
                SAY.is("the greatest", most, "paperOf " + i + " " + what, due[i][what]);
            }
        }
        SAY.is("the last mark's", manyMarks().and("paper 0 119 8 0"), "paperOf 0 1", 119);
    }

    public static void main(String[] args) {
        fourHundredPapers();
        kindsOfPapers();
        marksOfPapers();
        whatPapersAreAbout();
        daysOfPapers();
        goodsThatItHas();
        twentyGoods();
        entries();
        renewals();
        goodsThatItHasnt();
        strikes();
        knownOnes();
        personsThatHaveIt();
        papersOfOneKindAlone();
        marksThatArentEntered();
        bordersOfOpposing();
        opposingInSomeCountry();
        opposingWhereThePaperCantBe();
        opposingWithoutClash();
        takingBack();
        bordersOfPaperOf();
        SAY.end();
    }
}
