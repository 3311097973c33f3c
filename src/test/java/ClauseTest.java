/** Promises 6, 7, 9, 10 and 11: clause, text, approve, relate, isLinked. */
public final class ClauseTest {
    private static final Check CHECK = new Check();
    private static final int NONE = Glosstemplate.NONE;
    private static final int[] FAR = {Integer.MIN_VALUE, -2, -1, 3, 10, Integer.MAX_VALUE};

    public static void main(String[] args) {
        clauseNumbers();
        clauseIsRefused();
        textCountsSlots();
        textIsRefused();
        textsByLanguage();
        approveTells();
        approvalIsTakenAway();
        approveIsRefused();
        relateTellsHowItWas();
        relateIsRefused();
        linkedBySlots();
        linkedByLanguages();
        CHECK.end();
    }

    private static void clauseNumbers() {
        Glosstemplate g = new Glosstemplate();
        for (int i = 0; i < 9; i++) {
            CHECK.equal("clause", i, g.clause(i - 1));
        }
        CHECK.equal("the tenth clause", 9, g.clause(7));
        CHECK.refused("the eleventh clause", () -> g.clause(NONE));
        CHECK.refused("the eleventh clause", () -> g.clause(0));
        CHECK.illegal("the condition comes first", () -> g.clause(8));
        CHECK.yes("the last clause", g.isLinked(9));
        CHECK.outside("no clause", () -> g.isLinked(10));
    }

    private static void clauseIsRefused() {
        Desk desk = new Desk();
        int[] bad = {-2, 8, 255, Integer.MIN_VALUE, Integer.MAX_VALUE};
        for (int condition : bad) {
            CHECK.illegal("condition " + condition, () -> desk.g.clause(condition));
        }
        desk.type("ab");
        CHECK.equal("refused clauses do not count", 0, desk.g.clause(7));
        CHECK.equal("a clause leaves the buffer", 2, desk.g.clear());
    }

    private static void textCountsSlots() {
        Desk desk = new Desk();
        desk.g.clause(NONE);
        CHECK.equal("no slot", 0, desk.text(0, 0, "ab."));
        CHECK.equal("a text takes the buffer", 0, desk.g.clear());
        CHECK.equal("one slot", 1, desk.text(0, 1, "x[0ns]"));
        CHECK.equal("a same slot twice", 2, desk.text(0, 1, "[0ns][0ns]"));
        CHECK.equal("three slots", 3, desk.text(0, 2, "[0ns] [4ap]. [2dp]"));
        CHECK.equal("twelve slots", 12, desk.text(0, 0, "[3gs]".repeat(12)));
        CHECK.equal("sixty signs", 0, desk.text(0, 0, "a".repeat(60)));
        CHECK.equal("a blank", 0, desk.text(0, 0, " "));
    }

    private static void textIsRefused() {
        Desk desk = new Desk();
        desk.g.clause(NONE);
        CHECK.refused("an empty text", () -> desk.g.text(0, 0));
        desk.type("ab[");
        for (int none : FAR) {
            CHECK.outside("clause " + none, () -> desk.g.text(none, 0));
            CHECK.outside("language " + none, () -> desk.g.text(0, none));
        }
        CHECK.outside("clause 1", () -> desk.g.text(1, 0));
        CHECK.refused("no text", () -> desk.g.text(0, 0));
        CHECK.equal("an exception leaves the buffer", 3, desk.g.clear());
        CHECK.refused("there is no text", () -> desk.g.approve(0, 0));
        desk.text(0, 0, "ab");
        desk.g.approve(0, 0);
        desk.type("A");
        CHECK.refused("no text", () -> desk.g.text(0, 0));
        desk.g.clear();
        CHECK.refused("no text", () -> desk.g.text(0, 0));
        CHECK.no("a refused text changes no approval", desk.g.approve(0, 0));
    }

    private static void textsByLanguage() {
        Desk desk = new Desk();
        desk.word("kal");
        desk.g.data(0, 0);
        desk.letter(desk.g.clause(NONE));
        desk.letter(desk.g.clause(NONE));
        desk.text(0, 0, "first");
        desk.text(0, 1, "second");
        desk.text(1, 2, "other");
        CHECK.same("language 0", "First", desk.built(0, 0, 0));
        CHECK.same("language 1", "Second", desk.built(0, 0, 1));
        CHECK.same("language 2", "", desk.built(0, 0, 2));
        CHECK.same("the other clause", "Other", desk.built(1, 0, 2));
        desk.text(0, 0, "new");
        CHECK.same("in place of another", "New", desk.built(0, 0, 0));
        CHECK.same("in place of no other", "Second", desk.built(0, 0, 1));
    }

    private static void approveTells() {
        Desk desk = new Desk();
        desk.g.clause(NONE);
        desk.g.clause(NONE);
        desk.text(0, 0, "a");
        desk.text(0, 1, "b");
        desk.text(1, 0, "c");
        CHECK.yes("it was not approved", desk.g.approve(0, 0));
        CHECK.no("it was approved", desk.g.approve(0, 0));
        CHECK.yes("another language", desk.g.approve(0, 1));
        CHECK.yes("another clause", desk.g.approve(1, 0));
        desk.type("xy");
        CHECK.no("it is still approved", desk.g.approve(0, 0));
        CHECK.equal("approve leaves the buffer", 2, desk.g.clear());
    }

    private static void approvalIsTakenAway() {
        Desk desk = new Desk();
        desk.g.clause(NONE);
        desk.g.clause(NONE);
        desk.text(0, 0, "a");
        desk.text(0, 1, "a");
        desk.g.approve(0, 0);
        desk.g.approve(0, 1);
        desk.text(0, 0, "b");
        CHECK.yes("another text", desk.g.approve(0, 0));
        desk.text(0, 0, "b");
        CHECK.yes("a same text", desk.g.approve(0, 0));
        CHECK.no("the text of another language", desk.g.approve(0, 1));
        desk.word("kal");
        desk.own(0, 0, 0, "tot");
        desk.ending(0, 0, "s");
        desk.g.relate(0, 1, 0, 1);
        CHECK.no("another change takes none away", desk.g.approve(0, 0));
    }

    private static void approveIsRefused() {
        Desk desk = new Desk();
        desk.g.clause(NONE);
        desk.text(0, 1, "a");
        for (int none : FAR) {
            CHECK.outside("clause " + none, () -> desk.g.approve(none, 0));
            CHECK.outside("language " + none, () -> desk.g.approve(0, none));
        }
        CHECK.outside("clause 1", () -> desk.g.approve(1, 1));
        CHECK.refused("no text in language 0", () -> desk.g.approve(0, 0));
        CHECK.refused("no text in language 2", () -> desk.g.approve(0, 2));
        desk.text(0, 0, "b");
        CHECK.yes("a refused approval is none", desk.g.approve(0, 0));
    }

    private static void relateTellsHowItWas() {
        Glosstemplate g = new Glosstemplate();
        for (int i = 0; i < 10; i++) {
            g.clause(NONE);
        }
        for (int clause = 0; clause < 10; clause++) {
            for (int other = 0; other < 10; other++) {
                if (clause != other) {
                    int country = (clause + other) % 4;
                    CHECK.equal("at first", 0, g.relate(clause, other, country, (clause * 3 + other) % 3));
                }
            }
        }
        for (int clause = 0; clause < 10; clause++) {
            for (int other = 0; other < 10; other++) {
                if (clause != other) {
                    int country = (clause + other) % 4;
                    CHECK.equal("in between", (clause * 3 + other) % 3, g.relate(clause, other, country, 0));
                    CHECK.equal("in another country", 0, g.relate(clause, other, (country + 1) % 4, 0));
                }
            }
        }
        CHECK.equal("0 to 1", 0, g.relate(0, 1, 3, 1));
        CHECK.equal("1 to 2", 1, g.relate(0, 1, 3, 2));
        CHECK.equal("the other way round", 0, g.relate(1, 0, 3, 0));
        CHECK.equal("2 to 2", 2, g.relate(0, 1, 3, 2));
        CHECK.equal("2 to 0", 2, g.relate(0, 1, 3, 0));
        CHECK.equal("0 to 0", 0, g.relate(0, 1, 3, 0));
    }

    private static void relateIsRefused() {
        Glosstemplate g = new Glosstemplate();
        g.clause(NONE);
        g.clause(NONE);
        int[] none = {-1, 2, 10, Integer.MIN_VALUE, Integer.MAX_VALUE};
        for (int clause : none) {
            CHECK.outside("clause " + clause, () -> g.relate(clause, 0, 4, 0));
            CHECK.outside("other " + clause, () -> g.relate(0, clause, 0, 3));
            CHECK.outside("both " + clause, () -> g.relate(clause, clause, 0, 0));
        }
        int[] bad = {-1, 4, Integer.MIN_VALUE, Integer.MAX_VALUE};
        for (int number : bad) {
            CHECK.illegal("country " + number, () -> g.relate(0, 1, number, 1));
            CHECK.illegal("how " + number, () -> g.relate(0, 1, 0, number));
        }
        CHECK.illegal("how 3", () -> g.relate(0, 1, 0, 3));
        CHECK.illegal("both are one", () -> g.relate(1, 1, 0, 0));
        for (int country = 0; country < 4; country++) {
            CHECK.equal("nothing has changed", 0, g.relate(0, 1, country, 2));
        }
    }

    private static void linkedBySlots() {
        String[][] texts = {
            {"a", "b. c", "1"},
            {"[0ns]", "x", "0"},
            {"[0ns]", "[0ap]", "1"},
            {"[0ns]", "[1ns]", "0"},
            {"[0ns][1ns]", "[1dp] x [0gs]", "1"},
            {"[0ns][0ns]", "[0ns]", "0"},
            {"[0ns][0ns][1ns]", "[0ns][1ns][1ns]", "0"},
            {"[4ns][3ns][4ns]", "[4ns][4ns][3ns]", "1"},
            {"[4ns]", "[3ns]", "0"},
            {"[2ns]".repeat(12), "[2ap]".repeat(12), "1"},
            {"[2ns]".repeat(12), "[2ap]".repeat(11), "0"},
            {"[1ns][1ns]", "[0ns][2ns]", "0"},
            {"[1ns][4ns]", "[2ns][3ns]", "0"},
        };
        for (String[] row : texts) {
            Desk desk = new Desk();
            desk.g.clause(NONE);
            CHECK.yes("no texts", desk.g.isLinked(0));
            desk.text(0, 0, row[0]);
            CHECK.yes("one text", desk.g.isLinked(0));
            desk.text(0, 2, row[1]);
            CHECK.equal(row[0] + " and " + row[1], row[2].charAt(0) - '0', desk.g.isLinked(0) ? 1 : 0);
        }
    }

    private static void linkedByLanguages() {
        for (int odd = 0; odd < 3; odd++) {
            Desk desk = new Desk();
            desk.g.clause(2);
            desk.g.clause(2);
            for (int language = 0; language < 3; language++) {
                desk.text(0, language, language == odd ? "[0ns][1ns]" : "[0ns]");
                desk.text(1, language, "[3ns]");
            }
            CHECK.no("language " + odd + " is not like the others", desk.g.isLinked(0));
            CHECK.yes("another clause", desk.g.isLinked(1));
            desk.text(0, odd, "a [0dp]");
            CHECK.yes("all are alike", desk.g.isLinked(0));
            for (int none : new int[] {-1, 2, 10, Integer.MIN_VALUE, Integer.MAX_VALUE}) {
                CHECK.outside("clause " + none, () -> desk.g.isLinked(none));
            }
        }
    }
}
