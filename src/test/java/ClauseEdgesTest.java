/** The boundary sentences of promises 6 clause, 7 text, 9 approve, 10 relate and 11 isLinked. */
public final class ClauseEdgesTest {
    private static final Check CHECK = new Check();
    private static final int NONE = Glosstemplate.NONE;
    private static final String SIXTY = "abcdefghij".repeat(6);

    public static void main(String[] args) {
        conditionOutOfRange();
        conditionsByBits();
        tenClauses();
        clauseWithoutTexts();
        noSuchClauseOfText();
        noSuchLanguageOfText();
        bufferIsNoText();
        textOfSixty();
        textReturnsItsSlots();
        textTakesTheBuffer();
        textInPlace();
        eachInSomeLanguages();
        noSuchClauseOfApprove();
        noTextThere();
        returnsWhetherItWasNot();
        aSameTextIsNotApproved();
        noOtherChangeTakesItAway();
        noSuchClauseOfRelate();
        bothAreOne();
        countryOutOfRange();
        howOutOfRange();
        returnsHowItWas();
        relationsStandAlone();
        relationsOfOneClause();
        noSuchClauseOfIsLinked();
        inAllLanguagesInWhichTheyHaveAText();
        sameNumbers();
        whateverOrder();
        eachAsOften();
        CHECK.end();
    }

    private static void conditionOutOfRange() {
        CHECK.edge(6, "IllegalArgumentException if condition is out of range; 0 to 7, or NONE");
        Glosstemplate g = new Glosstemplate();
        for (int condition : Far.around(8)) {
            CHECK.illegal("condition " + condition, () -> g.clause(condition));
        }
        CHECK.equal("refused clauses do not count; NONE", 0, g.clause(NONE));
        CHECK.equal("condition 0", 1, g.clause(0));
        CHECK.equal("condition 7", 2, g.clause(7));
    }

    private static void conditionsByBits() {
        CHECK.edge(6, "a bit 0 to 7: it is in a letter only if the data have that bit");
        for (int condition = 0; condition < 8; condition++) {
            Desk desk = new Desk();
            desk.word("k");
            desk.letter(desk.clause(condition, "x"));
            desk.g.data(0, 1 << condition);
            desk.g.data(0, 255 - (1 << condition));
            desk.g.data(0, 255);
            desk.g.data(0, 0);
            CHECK.same("bit " + condition + " alone", "X", desk.built(0, 0, 0));
            CHECK.same("all but bit " + condition, "", desk.built(0, 1, 0));
            CHECK.same("all bits", "X", desk.built(0, 2, 0));
            CHECK.same("no bits", "", desk.built(0, 3, 0));
        }
    }

    private static void tenClauses() {
        CHECK.edge(6, "IllegalStateException if there are 10");
        Desk desk = new Desk();
        desk.type("ab");
        for (int i = 0; i < 10; i++) {
            CHECK.equal("clause", i, desk.g.clause(NONE));
        }
        for (int condition = NONE; condition < 8; condition++) {
            int each = condition;
            CHECK.refused("the eleventh", () -> desk.g.clause(each));
        }
        CHECK.illegal("the condition first", () -> desk.g.clause(8));
        CHECK.illegal("the condition first", () -> desk.g.clause(-2));
        CHECK.outside("there is none", () -> desk.g.isLinked(10));
        CHECK.equal("the buffer stays", 2, desk.g.clear());
    }

    private static void clauseWithoutTexts() {
        CHECK.edge(6, "Makes a clause without texts");
        Desk desk = new Desk();
        desk.word("k");
        desk.g.data(0, 0);
        desk.letter(desk.g.clause(NONE));
        for (int language = 0; language < 3; language++) {
            int each = language;
            CHECK.refused("approve in " + language, () -> desk.g.approve(0, each));
            CHECK.equal("sign in " + language, 0, desk.g.sign(0, 0, language, 0));
            CHECK.equal("faultOf in " + language, 1, desk.g.faultOf(0, 0, language, 0));
        }
    }

    private static void noSuchClauseOfText() {
        CHECK.edge(7, "IndexOutOfBoundsException if there is no such clause");
        Desk desk = new Desk();
        desk.type("a");
        CHECK.outside("of no clauses", () -> desk.g.text(0, 0));
        desk.g.clause(NONE);
        desk.g.clause(NONE);
        for (int clause : Far.from(2)) {
            CHECK.outside("clause " + clause, () -> desk.g.text(clause, 0));
        }
        CHECK.outside("clause 10", () -> desk.g.text(10, 0));
        CHECK.equal("an exception leaves the buffer", 2, desk.g.type('['));
        CHECK.outside("before the buffer", () -> desk.g.text(2, 0));
        desk.g.clear();
        CHECK.equal("the last clause", 0, desk.text(1, 0, "a"));
        CHECK.equal("the first clause", 0, desk.text(0, 0, "a"));
    }

    private static void noSuchLanguageOfText() {
        CHECK.edge(7, "or language; 0 to 2");
        Desk desk = new Desk();
        desk.g.clause(NONE);
        desk.type("a");
        for (int language : Far.from(3)) {
            CHECK.outside("language " + language, () -> desk.g.text(0, language));
        }
        CHECK.equal("an exception leaves the buffer", 2, desk.g.type('!'));
        CHECK.outside("before the buffer", () -> desk.g.text(0, 3));
        desk.g.clear();
        for (int language = 0; language < 3; language++) {
            int each = language;
            CHECK.refused("no text in " + language, () -> desk.g.approve(0, each));
        }
        CHECK.equal("language 0", 0, desk.text(0, 0, "a"));
        CHECK.equal("language 2", 0, desk.text(0, 2, "a"));
    }

    private static void bufferIsNoText() {
        CHECK.edge(7, "IllegalStateException if the buffer is no text");
        Desk desk = new Desk();
        desk.g.clause(NONE);
        String[] bad = {"", "A", "a!", "[", "a[0", "[0n", "[0ns", "[5ns]", "[0xs]", "[0nx]", "[0ns)", "]", "0",
            SIXTY.substring(1) + "[", SIXTY.substring(1) + "A"};
        for (String text : bad) {
            desk.type(text);
            CHECK.refused("the text " + text, () -> desk.g.text(0, 0));
            CHECK.equal("an exception leaves the buffer", text.length(), desk.g.clear());
        }
        CHECK.refused("there is none", () -> desk.g.approve(0, 0));
    }

    private static void textOfSixty() {
        CHECK.edge(7, "a buffer, of at most 60 signs");
        Desk desk = new Desk();
        desk.word("k");
        desk.g.data(0, 0);
        desk.letter(desk.g.clause(NONE));
        CHECK.equal("sixty signs", 0, desk.text(0, 0, SIXTY));
        CHECK.same("sixty signs", "A" + SIXTY.substring(1), desk.built(0, 0, 0));
        CHECK.equal("one sign", 0, desk.text(0, 0, "z"));
        CHECK.same("one sign", "Z", desk.built(0, 0, 0));
        for (String least : new String[] {" ", "."}) {
            CHECK.equal("one sign", 0, desk.text(0, 0, least));
            CHECK.same("one sign", least, desk.built(0, 0, 0));
        }
    }

    private static void textReturnsItsSlots() {
        CHECK.edge(7, "Returns how many slots it has");
        Desk desk = new Desk();
        desk.g.clause(NONE);
        for (int slots = 1; slots <= 12; slots++) {
            CHECK.equal(slots + " slots", slots, desk.text(0, 1, "[4ap]".repeat(slots)));
        }
        CHECK.equal("no slots, behind twelve", 0, desk.text(0, 1, "a"));
        CHECK.equal("each number", 5, desk.text(0, 1, "[0ns][1ns][2ns][3ns][4ns]"));
        CHECK.equal("at the end", 1, desk.text(0, 1, "a. [0ns]"));
    }

    private static void textTakesTheBuffer() {
        CHECK.edge(7, "it is taken, and empty then");
        Desk desk = new Desk();
        desk.g.clause(NONE);
        desk.text(0, 0, SIXTY);
        CHECK.equal("clear", 0, desk.g.clear());
        CHECK.refused("no other text of it", () -> desk.g.text(0, 1));
    }

    private static void textInPlace() {
        CHECK.edge(7, "a text that comes in place of another one");
        Desk desk = new Desk();
        desk.word("k");
        desk.g.data(0, 0);
        desk.letter(desk.g.clause(NONE));
        desk.text(0, 0, "abc [0ns]");
        desk.text(0, 0, "z");
        CHECK.same("a shorter one", "Z", desk.built(0, 0, 0));
        desk.text(0, 0, "[0ns] abc");
        CHECK.same("a longer one", "K abc", desk.built(0, 0, 0));
        desk.type("[");
        CHECK.refused("none", () -> desk.g.text(0, 0));
        CHECK.same("none leaves it", "K abc", desk.built(0, 0, 0));
    }

    private static void eachInSomeLanguages() {
        CHECK.edge(7, "in a language a clause may have a text");
        for (int language = 0; language < 3; language++) {
            Desk desk = new Desk();
            desk.word("k");
            desk.g.data(0, 0);
            desk.letter(desk.g.clause(NONE), desk.g.clause(NONE));
            desk.text(0, language, "x");
            for (int shown = 0; shown < 3; shown++) {
                CHECK.same("in " + shown, shown == language ? "X" : "", desk.built(0, 0, shown));
            }
            desk.text(1, (language + 1) % 3, "y");
            CHECK.same("of the first clause", "X", desk.built(0, 0, language));
            CHECK.same("of the last clause", "Y", desk.built(0, 0, (language + 1) % 3));
        }
    }

    private static void noSuchClauseOfApprove() {
        CHECK.edge(9, "IndexOutOfBoundsException if there is no such clause or language");
        Desk desk = new Desk();
        CHECK.outside("of no clauses", () -> desk.g.approve(0, 0));
        desk.clause(NONE, "a");
        desk.clause(NONE, "b");
        desk.text(1, 2, "c");
        for (int clause : Far.from(2)) {
            CHECK.outside("clause " + clause, () -> desk.g.approve(clause, 0));
        }
        for (int language : Far.from(3)) {
            CHECK.outside("language " + language, () -> desk.g.approve(0, language));
            CHECK.outside("both, language " + language, () -> desk.g.approve(2, language));
        }
        CHECK.outside("clause 10", () -> desk.g.approve(10, 0));
        CHECK.yes("the first clause, language 0", desk.g.approve(0, 0));
        CHECK.yes("the last clause, language 0", desk.g.approve(1, 0));
        CHECK.yes("the last clause, language 2", desk.g.approve(1, 2));
    }

    private static void noTextThere() {
        CHECK.edge(9, "IllegalStateException if it has no text there");
        for (int language = 0; language < 3; language++) {
            Desk desk = new Desk();
            desk.clause(NONE, "a");
            desk.text(0, 1, "a");
            desk.text(0, 2, "a");
            desk.g.clause(NONE);
            int there = language;
            CHECK.refused("none yet", () -> desk.g.approve(1, there));
            desk.text(1, language, "b");
            for (int each = 0; each < 3; each++) {
                int asked = each;
                if (each != language) {
                    CHECK.refused("none in " + each, () -> desk.g.approve(1, asked));
                }
            }
            CHECK.yes("a refused approval is none", desk.g.approve(1, language));
        }
    }

    private static void returnsWhetherItWasNot() {
        CHECK.edge(9, "Returns whether it was not approved");
        Desk desk = new Desk();
        desk.clause(NONE, "a");
        desk.text(0, 1, "a");
        CHECK.yes("at first", desk.g.approve(0, 0));
        CHECK.no("then", desk.g.approve(0, 0));
        CHECK.no("and then", desk.g.approve(0, 0));
        CHECK.yes("another language", desk.g.approve(0, 1));
        desk.clause(NONE, "a");
        CHECK.yes("another clause", desk.g.approve(1, 0));
    }

    private static void aSameTextIsNotApproved() {
        CHECK.edge(9, "a text that comes in place of another one, even a same one, is not");
        Desk desk = new Desk();
        desk.clause(NONE, "a");
        desk.text(0, 1, "a");
        desk.clause(NONE, "a");
        desk.g.approve(0, 0);
        desk.g.approve(0, 1);
        desk.g.approve(1, 0);
        desk.text(0, 0, "a");
        CHECK.yes("a same one", desk.g.approve(0, 0));
        desk.text(0, 0, "b");
        CHECK.yes("another one", desk.g.approve(0, 0));
        CHECK.no("in another language", desk.g.approve(0, 1));
        CHECK.no("of another clause", desk.g.approve(1, 0));
        desk.type("B");
        CHECK.refused("no text", () -> desk.g.text(0, 0));
        CHECK.no("a refused one takes none away", desk.g.approve(0, 0));
    }

    private static void noOtherChangeTakesItAway() {
        CHECK.edge(9, "Nothing is promised beyond the answers and state changes described above");
        Desk desk = new Desk();
        desk.word("k");
        desk.g.data(0, 0);
        desk.letter(desk.clause(NONE, "[0ns]"), desk.clause(NONE, "b"));
        desk.g.approve(0, 0);
        desk.ending(0, 0, "e");
        desk.own(0, 0, 0, "l");
        desk.g.relate(0, 1, 0, 2);
        desk.g.relate(0, 1, 0, 0);
        desk.word("m");
        desk.g.fill(0, 0, 1);
        desk.g.price(0, 2);
        desk.text(1, 0, "c");
        CHECK.no("it is approved still", desk.g.approve(0, 0));
    }

    private static void noSuchClauseOfRelate() {
        CHECK.edge(10, "IndexOutOfBoundsException if there is no such clause, of either");
        Glosstemplate g = new Glosstemplate();
        CHECK.outside("of no clauses", () -> g.relate(0, 1, 0, 0));
        g.clause(NONE);
        CHECK.outside("of one clause", () -> g.relate(0, 1, 0, 0));
        g.clause(NONE);
        for (int clause : Far.from(2)) {
            CHECK.outside("clause " + clause, () -> g.relate(clause, 0, 0, 1));
            CHECK.outside("other " + clause, () -> g.relate(0, clause, 0, 1));
            CHECK.outside("before both are one, " + clause, () -> g.relate(clause, clause, 0, 1));
            CHECK.outside("before country, " + clause, () -> g.relate(clause, 0, 4, 1));
            CHECK.outside("before how, " + clause, () -> g.relate(0, clause, 0, 3));
        }
        CHECK.equal("the first to the last", 0, g.relate(0, 1, 0, 1));
        CHECK.equal("the last to the first", 0, g.relate(1, 0, 0, 1));
    }

    private static void bothAreOne() {
        CHECK.edge(10, "IllegalArgumentException if both are one");
        Glosstemplate g = new Glosstemplate();
        for (int clause = 0; clause < 10; clause++) {
            g.clause(NONE);
            int each = clause;
            for (int how = 0; how < 3; how++) {
                int asked = how;
                CHECK.illegal("clause " + clause, () -> g.relate(each, each, 3, asked));
            }
        }
        CHECK.equal("the last and the one before", 0, g.relate(9, 8, 3, 1));
    }

    private static void countryOutOfRange() {
        CHECK.edge(10, "or country is out of range; 0 to 3");
        Glosstemplate g = new Glosstemplate();
        for (int clause = 0; clause < 3; clause++) {
            g.clause(NONE);
        }
        for (int country : Far.from(4)) {
            CHECK.illegal("country " + country, () -> g.relate(0, 1, country, 1));
            CHECK.illegal("country " + country, () -> g.relate(2, 1, country, 0));
        }
        for (int country = 0; country < 4; country++) {
            CHECK.equal("nothing has changed", 0, g.relate(0, 1, country, 0));
            CHECK.equal("nor of the next clause", 0, g.relate(0, 2, country, 0));
        }
    }

    private static void howOutOfRange() {
        CHECK.edge(10, "or how is out of range; 0 neither, 1 it needs it, 2 it bars it");
        Glosstemplate g = new Glosstemplate();
        g.clause(NONE);
        g.clause(NONE);
        for (int how : Far.from(3)) {
            CHECK.illegal("how " + how, () -> g.relate(0, 1, 0, how));
        }
        CHECK.equal("nothing has changed", 0, g.relate(0, 1, 0, 2));
        CHECK.equal("the greatest", 2, g.relate(0, 1, 0, 0));
        CHECK.equal("the least", 0, g.relate(0, 1, 0, 0));
    }

    private static void returnsHowItWas() {
        CHECK.edge(10, "Returns how it was");
        Glosstemplate g = new Glosstemplate();
        g.clause(NONE);
        g.clause(NONE);
        for (int was = 0; was < 3; was++) {
            for (int how = 0; how < 3; how++) {
                g.relate(1, 0, 2, was);
                CHECK.equal(was + " to " + how, was, g.relate(1, 0, 2, how));
                CHECK.equal("then", how, g.relate(1, 0, 2, how));
            }
        }
    }

    private static void relationsStandAlone() {
        CHECK.edge(10, "need, or bar, another one, in a country, 0 to 3: the first and the last of all");
        Glosstemplate g = new Glosstemplate();
        for (int clause = 0; clause < 10; clause++) {
            g.clause(NONE);
        }
        g.relate(9, 8, 3, 1);
        g.relate(0, 1, 0, 2);
        for (int clause = 0; clause < 10; clause++) {
            for (int other = 0; other < 10; other++) {
                for (int country = 0; country < 4 && clause != other; country += 3) {
                    int due = clause == 9 && other == 8 && country == 3 ? 1
                            : clause == 0 && other == 1 && country == 0 ? 2 : 0;
                    CHECK.equal(clause + " to " + other + " in " + country, due,
                            g.relate(clause, other, country, 0));
                }
            }
        }
    }

    private static void relationsOfOneClause() {
        CHECK.edge(10, "need, or bar, another one, in a country, 0 to 3: all of one clause");
        Glosstemplate g = new Glosstemplate();
        for (int clause = 0; clause < 10; clause++) {
            g.clause(NONE);
        }
        for (int number = 4; number < 40; number++) {
            CHECK.equal("at first", 0, g.relate(0, number / 4, number % 4, (number / 4 + number % 4 * 2) % 3));
        }
        for (int number = 4; number < 40; number++) {
            CHECK.equal("to " + number / 4 + " in " + number % 4, (number / 4 + number % 4 * 2) % 3,
                    g.relate(0, number / 4, number % 4, 0));
        }
    }

    private static void noSuchClauseOfIsLinked() {
        CHECK.edge(11, "IndexOutOfBoundsException if there is no such clause");
        Glosstemplate g = new Glosstemplate();
        CHECK.outside("of no clauses", () -> g.isLinked(0));
        for (int clause = 0; clause < 10; clause++) {
            int next = clause + 1;
            g.clause(NONE);
            CHECK.yes("the last clause", g.isLinked(clause));
            CHECK.outside("the next one", () -> g.isLinked(next));
        }
        for (int clause : Far.from(10)) {
            CHECK.outside("clause " + clause, () -> g.isLinked(clause));
        }
    }

    private static boolean linked(String first, String second, String third) {
        Desk desk = new Desk();
        desk.g.clause(NONE);
        String[] texts = {first, second, third};
        for (int language = 0; language < 3; language++) {
            if (texts[language] != null) {
                desk.text(0, language, texts[language]);
            }
        }
        return desk.g.isLinked(0);
    }

    private static void inAllLanguagesInWhichTheyHaveAText() {
        CHECK.edge(11, "in all languages in which they have a text");
        String slot = "[0ns]";
        CHECK.yes("no text", linked(null, null, null));
        CHECK.yes("language 0 alone", linked(slot, null, null));
        CHECK.yes("language 1 alone", linked(null, slot, null));
        CHECK.yes("language 2 alone", linked(null, null, slot));
        CHECK.yes("all without slots", linked("a", "b. c", " "));
        CHECK.yes("all", linked(slot, slot, slot));
        CHECK.yes("two", linked(slot, null, slot));
        CHECK.no("0 and 1", linked(slot, "a", null));
        CHECK.no("1 and 2", linked(null, slot, "a"));
        CHECK.no("0 and 2", linked("a", null, slot));
        CHECK.no("0 is not like the others", linked("a", slot, slot));
        CHECK.no("1 is not like the others", linked(slot, "a", slot));
        CHECK.no("2 is not like the others", linked(slot, slot, "a"));
    }

    private static void sameNumbers() {
        CHECK.edge(11, "slots of the same numbers are in it");
        for (int one = 0; one < 5; one++) {
            for (int other = 0; other < 5; other++) {
                boolean due = one == other;
                CHECK.equal(one + " and " + other, due ? 1 : 0, linked("[" + one + "ns]", null, "[" + other + "ns]") ? 1 : 0);
            }
        }
        CHECK.no("as many, of the same sum", linked("[1ns][3ns]", "[2ns][2ns]", null));
        CHECK.no("the same numbers and one more", linked("[0ns][4ns]", "[0ns]", null));
    }

    private static void whateverOrder() {
        CHECK.edge(11, "in whatever order, cases and numbers");
        CHECK.yes("order", linked("[0ns] a [4ns]", "[4ns]. [0ns]", null));
        CHECK.yes("cases", linked("[3ns]", "[3gs]", "[3as]"));
        CHECK.yes("numbers", linked("[3ns]", null, "[3np]"));
        CHECK.yes("all", linked("[0ns][1gs][2ds][3as][4np]", "[4as][3ap][2gp][1ns][0dp]", "[2ns][0ns][4ns][1ns][3ns]"));
    }

    private static void eachAsOften() {
        CHECK.edge(11, "each as often");
        CHECK.yes("twice", linked("[0ns][0ns]", "[0ns][0ns]", null));
        CHECK.no("twice and once", linked("[0ns][0ns]", "[0ns]", null));
        CHECK.no("by turns", linked("[0ns][0ns][1ns]", "[0ns][1ns][1ns]", null));
        CHECK.yes("twelve times", linked("[4ns]".repeat(12), null, "[4ap]".repeat(12)));
        CHECK.no("twelve times and eleven", linked("[4ns]".repeat(12), null, "[4ap]".repeat(11)));
        CHECK.no("ten times", linked("[0ns]".repeat(10) + "[1ns]", "[0ns]" + "[1ns]".repeat(10), null));
    }
}
