/** The boundary sentences of promises 18 sign, 19 signAnew and 20 costs. */
public final class BuildEdgesTest {
    private static final Check CHECK = new Check();
    private static final int NONE = Glosstemplate.NONE;
    private static final int SIGN = 18;
    private static final int SIGN_ANEW = 19;

    public static void main(String[] args) {
        for (int promise = SIGN; promise <= SIGN_ANEW; promise++) {
            noSuchLetterDataOrLanguage(promise);
            placeBelow0(promise);
            behindTheLastOne(promise);
            ofNoSigns(promise);
            blankBetweenTwo(promise);
            onlyBetweenTwoThatAreLaid(promise);
            textsThatAreNotThere(promise);
            whetherOrNotItMayBeBuilt(promise);
            sentencesAtTheBeginning(promise);
            sentencesBehindAFullStop(promise);
            sentencesOverClauses(promise);
            capitalsAToZ(promise);
            onlyTheFirstLetter(promise);
            slotsOfAllNumbers(promise);
            theLongestForm(promise);
            theLongestLetter(promise);
        }
        noSuchLetterDataOrLanguageOfCosts();
        longestRowsOfLetters();
        noWords();
        wordsOverSlotsAndClauses();
        textsLeftOut();
        mostWords();
        leastAndGreatestPrice();
        priceOfTheLanguage();
        CHECK.end();
    }

    private static char shown(int promise, Desk desk, int letter, int data, int language, int place) {
        return promise == SIGN ? desk.g.sign(letter, data, language, place)
                : desk.g.signAnew(letter, data, language, place);
    }

    private static String all(int promise, Desk desk, int letter, int data, int language) {
        return promise == SIGN ? desk.built(letter, data, language) : desk.builtAnew(letter, data, language);
    }

    /** A desk with the word k, data 0 without bits and data 1 with all. */
    private static Desk desk() {
        Desk desk = new Desk();
        desk.word("k");
        desk.g.data(0, 0);
        desk.g.data(0, 255);
        return desk;
    }

    private static String one(int promise, String... texts) {
        Desk desk = desk();
        desk.letter();
        for (String text : texts) {
            desk.g.put(0, desk.clause(NONE, text));
        }
        return all(promise, desk, 0, 0, 0);
    }

    private static void noSuchLetterDataOrLanguage(int promise) {
        CHECK.edge(promise, "IndexOutOfBoundsException if there is no such letter, data or language");
        Desk desk = desk();
        CHECK.outside("of no letters", () -> shown(promise, desk, 0, 0, 0, 0));
        int clause = desk.clause(NONE, "a");
        desk.text(clause, 2, "b");
        desk.letter(clause);
        desk.letter(clause);
        for (int letter : Far.from(2)) {
            CHECK.outside("letter " + letter, () -> shown(promise, desk, letter, 0, 0, 0));
        }
        for (int data : Far.from(2)) {
            CHECK.outside("data " + data, () -> shown(promise, desk, 0, data, 0, 0));
        }
        for (int language : Far.from(3)) {
            CHECK.outside("language " + language, () -> shown(promise, desk, 0, 0, language, 0));
        }
        CHECK.equal("the first of all", 'A', shown(promise, desk, 0, 0, 0, 0));
        CHECK.equal("the last of all", 'B', shown(promise, desk, 1, 1, 2, 0));
    }

    private static void placeBelow0(int promise) {
        CHECK.edge(promise, "or place is below 0");
        Desk desk = desk();
        desk.letter(desk.clause(NONE, "ab"));
        desk.letter();
        for (int place : Far.BELOW) {
            CHECK.outside("place " + place, () -> shown(promise, desk, 0, 0, 0, place));
            CHECK.outside("of no signs, place " + place, () -> shown(promise, desk, 1, 0, 0, place));
        }
        CHECK.outside("place -1", () -> shown(promise, desk, 0, 0, 0, -1));
        CHECK.equal("place 0", 'A', shown(promise, desk, 0, 0, 0, 0));
    }

    private static void behindTheLastOne(int promise) {
        CHECK.edge(promise, "a 0 behind the last one");
        Desk desk = desk();
        desk.letter(desk.clause(NONE, "ab[0ns]"), desk.clause(NONE, "c."));
        CHECK.equal("the first one", 'A', shown(promise, desk, 0, 0, 0, 0));
        CHECK.equal("the last one", '.', shown(promise, desk, 0, 0, 0, 5));
        CHECK.equal("behind it", 0, shown(promise, desk, 0, 0, 0, 6));
        CHECK.equal("behind that", 0, shown(promise, desk, 0, 0, 0, 7));
        for (int place : Far.ABOVE) {
            CHECK.equal("place " + place, 0, shown(promise, desk, 0, 0, 0, place));
        }
        Desk form = desk();
        form.letter(form.clause(NONE, "a[0ns]"));
        CHECK.equal("the last one of a form", 'k', shown(promise, form, 0, 0, 0, 1));
        CHECK.equal("behind a form", 0, shown(promise, form, 0, 0, 0, 2));
    }

    private static void ofNoSigns(int promise) {
        CHECK.edge(promise, "a 0 behind the last one: of no signs");
        Desk desk = desk();
        desk.letter();
        desk.letter(desk.g.clause(NONE));
        desk.letter(desk.clause(0, "a"));
        for (int letter = 0; letter < 3; letter++) {
            CHECK.equal("place 0 of letter " + letter, 0, shown(promise, desk, letter, 0, 0, 0));
            CHECK.equal("place 1 of letter " + letter, 0, shown(promise, desk, letter, 0, 0, 1));
            CHECK.equal("the greatest place", 0, shown(promise, desk, letter, 0, 0, Integer.MAX_VALUE));
        }
    }

    private static void blankBetweenTwo(int promise) {
        CHECK.edge(promise, "one behind the other, with a blank between two that are laid");
        CHECK.same("one", "A", one(promise, "a"));
        CHECK.same("two", "A b", one(promise, "a", "b"));
        CHECK.same("six", "A b c d e f", one(promise, "a", "b", "c", "d", "e", "f"));
        CHECK.same("blanks", "   ", one(promise, " ", " "));
        CHECK.same("full stops", ". .", one(promise, ".", "."));
        CHECK.same("forms", "K k", one(promise, "[0ns]", "[0ns]"));
        CHECK.same("texts with blanks of their own", "A   b", one(promise, "a ", " b"));
    }

    private static void onlyBetweenTwoThatAreLaid(int promise) {
        CHECK.edge(promise, "the texts of its clauses whose condition the data meet");
        for (int laid = 0; laid < 8; laid++) {
            Desk desk = desk();
            desk.g.data(0, laid);
            desk.letter(desk.clause(0, "a"), desk.clause(1, "b"), desk.clause(2, "c"));
            StringBuilder due = new StringBuilder();
            for (int clause = 0; clause < 3; clause++) {
                if ((laid >> clause & 1) == 1) {
                    due.append(due.length() == 0 ? "" : " ");
                    due.append((char) ((due.length() == 0 ? 'A' : 'a') + clause));
                }
            }
            CHECK.same("bits " + laid, due.toString(), all(promise, desk, 0, 2, 0));
        }
    }

    private static void textsThatAreNotThere(int promise) {
        CHECK.edge(promise, "texts that are not there are left out");
        for (int there = 0; there < 8; there++) {
            Desk desk = desk();
            desk.letter();
            StringBuilder due = new StringBuilder();
            for (int clause = 0; clause < 3; clause++) {
                desk.g.put(0, desk.g.clause(NONE));
                desk.text(clause, 0, "x");
                if ((there >> clause & 1) == 1) {
                    desk.text(clause, 1, String.valueOf((char) ('a' + clause)));
                    due.append(due.length() == 0 ? "" : " ");
                    due.append((char) ((due.length() == 0 ? 'A' : 'a') + clause));
                }
            }
            CHECK.same("texts " + there, due.toString(), all(promise, desk, 0, 0, 1));
        }
    }

    private static void whetherOrNotItMayBeBuilt(int promise) {
        CHECK.edge(promise, "whether or not it may be built");
        Desk desk = desk();
        int needs = desk.clause(NONE, "a");
        int bars = desk.clause(NONE, "b");
        int other = desk.clause(NONE, "c");
        desk.letter(needs, bars, desk.g.clause(NONE));
        desk.g.relate(needs, other, 0, 1);
        desk.g.relate(bars, needs, 0, 2);
        CHECK.same("not approved", "A b", all(promise, desk, 0, 0, 0));
        desk.g.approve(needs, 0);
        CHECK.equal("one that it needs is not in it", 3, desk.g.faultOf(0, 0, 0, 0));
        CHECK.same("one that it needs is not in it", "A b", all(promise, desk, 0, 0, 0));
        desk.g.relate(needs, other, 0, 0);
        desk.g.approve(bars, 0);
        CHECK.equal("one that it bars is in it", 14, desk.g.faultOf(0, 0, 0, 0));
        CHECK.same("one that it bars is in it", "A b", all(promise, desk, 0, 0, 0));
        desk.g.relate(bars, needs, 0, 0);
        CHECK.equal("no text", 21, desk.g.faultOf(0, 0, 0, 0));
        CHECK.same("no text", "A b", all(promise, desk, 0, 0, 0));
    }

    private static void sentencesAtTheBeginning(int promise) {
        CHECK.edge(promise, "each sentence, that is what comes at the beginning");
        CHECK.same("a letter", "Ab", one(promise, "ab"));
        CHECK.same("a blank and a letter", " Ab", one(promise, " ab"));
        CHECK.same("blanks and a letter", "   Ab", one(promise, "   ab"));
        CHECK.same("a form", "Kb", one(promise, "[0ns]b"));
        CHECK.same("a blank and a form", " Kb", one(promise, " [0ns]b"));
        CHECK.same("no letter", "  ", one(promise, "  "));
    }

    private static void sentencesBehindAFullStop(int promise) {
        CHECK.edge(promise, "or behind a full stop");
        CHECK.same("at once", "A.B", one(promise, "a.b"));
        CHECK.same("behind a blank", "A. B", one(promise, "a. b"));
        CHECK.same("behind blanks", "A.   B c", one(promise, "a.   b c"));
        CHECK.same("behind two full stops", "A..B", one(promise, "a..b"));
        CHECK.same("behind two with a blank", "A. . B", one(promise, "a. . b"));
        CHECK.same("at the beginning", ".A", one(promise, ".a"));
        CHECK.same("a form at once", "A.K", one(promise, "a.[0ns]"));
        CHECK.same("a form behind a blank", "A. K k", one(promise, "a. [0ns] [0ns]"));
        CHECK.same("a full stop behind a form", "K.A", one(promise, "[0ns].a"));
        CHECK.same("a full stop at the end", "A.", one(promise, "a."));
    }

    private static void sentencesOverClauses(int promise) {
        CHECK.edge(promise, "what comes at the beginning, or behind a full stop: over clauses");
        CHECK.same("no full stop between", "A b", one(promise, "a", "b"));
        CHECK.same("a full stop at the end of one", "A. B", one(promise, "a.", "b"));
        CHECK.same("a full stop and blanks", "A.   B", one(promise, "a. ", " b"));
        CHECK.same("a full stop at the beginning of one", "A .B", one(promise, "a", ".b"));
        CHECK.same("a full stop in one of its own", "A . B", one(promise, "a", ".", "b"));
        CHECK.same("blanks in one of their own", "  A", one(promise, " ", "a"));
        CHECK.same("a form behind a full stop", "A. K", one(promise, "a.", "[0ns]"));
        CHECK.same("a form behind none", "A k", one(promise, "a", "[0ns]"));
    }

    private static void capitalsAToZ(int promise) {
        CHECK.edge(promise, "a capital one, A to Z");
        for (char letter = 'a'; letter <= 'z'; letter++) {
            CHECK.same("a text with " + letter, "" + (char) (letter - 32) + letter, one(promise, "" + letter + letter));
            Desk desk = new Desk();
            desk.word("" + letter + letter);
            desk.g.data(0, 0);
            desk.letter(desk.clause(NONE, "[0ns]"));
            CHECK.same("a form with " + letter, "" + (char) (letter - 32) + letter, all(promise, desk, 0, 0, 0));
        }
    }

    private static void onlyTheFirstLetter(int promise) {
        CHECK.edge(promise, "has its first letter as a capital one");
        CHECK.same("in words", "Ab cd ef. Gh ij", one(promise, "ab cd ef. gh ij"));
        CHECK.same("in forms", "K kk k", one(promise, "[0ns] [0ns][0ns] [0ns]"));
        Desk desk = desk();
        desk.own(0, 0, 0, "abc");
        desk.letter(desk.clause(NONE, "[0ns][0ns].[0ns] [0ns]"));
        CHECK.same("in longer forms", "Abcabc.Abc abc", all(promise, desk, 0, 0, 0));
    }

    private static void slotsOfAllNumbers(int promise) {
        CHECK.edge(promise, "each slot being the form of the word of the data in its case and number");
        Desk desk = new Desk();
        String cases = "ngda";
        for (int word = 0; word < 5; word++) {
            desk.word("k" + (char) ('a' + word));
        }
        desk.g.data(0, 0);
        for (int slot = 0; slot < 5; slot++) {
            desk.g.fill(0, slot, 4 - slot);
        }
        for (int grammar = 0; grammar < 8; grammar++) {
            desk.ending(1, grammar, "r" + (char) ('s' + grammar));
        }
        desk.letter();
        String[] texts = {"[0ns][0np][0gs][0gp]", "[1ds][1dp][1as][1ap]", "[2ns][3np][4gs][4ap]"};
        for (int clause = 0; clause < 3; clause++) {
            desk.g.put(0, desk.g.clause(NONE));
            desk.text(clause, 1, texts[clause]);
        }
        CHECK.same("all", "Kerskertkerukerv kdrwkdrxkdrykdrz kcrskbrtkarukarz", all(promise, desk, 0, 0, 1));
    }

    private static void theLongestForm(int promise) {
        CHECK.edge(promise, "a stem, of 1 to 10 letters; an ending, of up to 4 letters");
        Desk desk = new Desk();
        desk.word("abcdefghij");
        desk.word("z");
        desk.ending(0, 0, "klmn");
        desk.ending(0, 1, "eeee");
        desk.own(0, 1, 1, "abcdefghij");
        desk.g.data(0, 0);
        desk.g.fill(0, 1, 1);
        desk.letter(desk.clause(NONE, ". [0ns][1gs][0np][1np]a"));
        CHECK.same("long and short", ". Abcdefghijklmnzabcdefghijeeeeabcdefghija",
                all(promise, desk, 0, 0, 0));
    }

    private static void theLongestLetter(int promise) {
        CHECK.edge(promise, "a row of up to 6 clauses; a buffer, of at most 60 signs");
        StringBuilder due = new StringBuilder();
        for (int i = 0; i < 6; i++) {
            due.append(i == 0 ? "" : " ").append("abcdefghijklmn".repeat(12));
        }
        due.setCharAt(0, 'A');
        Desk desk = new Desk();
        desk.word("abcdefghij");
        desk.ending(2, 7, "klmn");
        desk.g.data(0, 0);
        desk.g.letter();
        for (int i = 0; i < 6; i++) {
            desk.g.clause(NONE);
            desk.text(i, 2, "[4ap]".repeat(i == 0 ? 12 : 1));
            desk.g.put(0, i);
        }
        CHECK.equal("one long clause", 'n', shown(promise, desk, 0, 0, 2, 12 * 14 + 5 * 15 - 1));
        CHECK.equal("behind it", 0, shown(promise, desk, 0, 0, 2, 12 * 14 + 5 * 15));
        Desk full = new Desk();
        full.word("abcdefghij");
        full.ending(2, 7, "klmn");
        full.g.data(0, 0);
        full.g.letter();
        for (int i = 0; i < 6; i++) {
            full.g.clause(NONE);
            full.text(i, 2, "[4ap]".repeat(12));
            full.g.put(0, i);
        }
        int[] places = {0, 1, 13, 14, 167, 168, 169, 336, 337, 338, 844, 845, 1011, 1012, 1013, 1014};
        for (int place : places) {
            CHECK.equal("place " + place, place < due.length() ? due.charAt(place) : 0,
                    shown(promise, full, 0, 0, 2, place));
        }
    }

    private static void noSuchLetterDataOrLanguageOfCosts() {
        CHECK.edge(20, "IndexOutOfBoundsException if there is no such letter, data or language");
        Desk desk = desk();
        CHECK.outside("of no letters", () -> desk.g.costs(0, 0, 0));
        int clause = desk.clause(NONE, "a");
        desk.text(clause, 2, "a b");
        desk.letter(clause);
        desk.letter(clause);
        for (int letter : Far.from(2)) {
            CHECK.outside("letter " + letter, () -> desk.g.costs(letter, 0, 0));
        }
        for (int data : Far.from(2)) {
            CHECK.outside("data " + data, () -> desk.g.costs(0, data, 0));
        }
        for (int language : Far.from(3)) {
            CHECK.outside("language " + language, () -> desk.g.costs(0, 0, language));
        }
        CHECK.equal("the first of all", 1, desk.g.costs(0, 0, 0));
        CHECK.equal("the last of all", 2, desk.g.costs(1, 1, 2));
    }

    private static int costsOf(String... texts) {
        Desk desk = desk();
        desk.letter();
        for (String text : texts) {
            desk.g.put(0, desk.clause(NONE, text));
        }
        return desk.g.costs(0, 0, 0);
    }

    private static void longestRowsOfLetters() {
        CHECK.edge(20, "for each word: each longest row of letters");
        CHECK.equal("one letter", 1, costsOf("a"));
        CHECK.equal("the last letter", 1, costsOf("z"));
        CHECK.equal("sixty letters", 1, costsOf("a".repeat(60)));
        CHECK.equal("a capital one and others", 1, costsOf("ab"));
        CHECK.equal("a blank between", 2, costsOf("a b"));
        CHECK.equal("blanks between", 2, costsOf("a   b"));
        CHECK.equal("a full stop between", 2, costsOf("a.b"));
        CHECK.equal("blanks round it", 1, costsOf(" a "));
        CHECK.equal("full stops round it", 1, costsOf(".a."));
        CHECK.equal("the last one without a full stop", 3, costsOf("a. b. c"));
    }

    private static void noWords() {
        CHECK.edge(20, "for each word: of no words");
        CHECK.equal("no clauses", 0, costsOf());
        CHECK.equal("a blank", 0, costsOf(" "));
        CHECK.equal("a full stop", 0, costsOf("."));
        CHECK.equal("sixty of them", 0, costsOf(" .".repeat(30), ". ".repeat(30)));
    }

    private static void wordsOverSlotsAndClauses() {
        CHECK.edge(20, "what a letter costs, as it is built");
        CHECK.equal("a form", 1, costsOf("[0ns]"));
        CHECK.equal("a form within letters", 1, costsOf("a[0ns]b"));
        CHECK.equal("two forms", 1, costsOf("[0ns][0np]"));
        CHECK.equal("two forms with a blank", 2, costsOf("[0ns] [0np]"));
        CHECK.equal("clauses end words", 2, costsOf("a", "b"));
        CHECK.equal("six clauses", 6, costsOf("a", "b", "c", "d", "e", "f"));
    }

    private static void textsLeftOut() {
        CHECK.edge(20, "its clauses whose condition the data meet");
        Desk desk = desk();
        desk.letter(desk.clause(0, "a b"), desk.clause(NONE, "c"), desk.g.clause(NONE));
        CHECK.equal("one is not met", 1, desk.g.costs(0, 0, 0));
        CHECK.equal("all are met", 3, desk.g.costs(0, 1, 0));
        CHECK.equal("no texts", 0, desk.g.costs(0, 1, 1));
    }

    private static void mostWords() {
        CHECK.edge(20, "0 to 1000, for each word: the dearest letter");
        Desk desk = desk();
        desk.letter();
        for (int i = 0; i < 6; i++) {
            desk.g.put(0, desk.clause(NONE, (i % 2 == 0 ? "a." : "a ").repeat(30)));
        }
        CHECK.equal("30 words in each clause", 180, desk.g.costs(0, 0, 0));
        desk.g.price(0, 1000);
        CHECK.equal("at the greatest price", 180000, desk.g.costs(0, 0, 0));
    }

    private static void leastAndGreatestPrice() {
        CHECK.edge(20, "the price of the language, 1 at first");
        Desk desk = desk();
        desk.letter(desk.clause(NONE, "a b"));
        CHECK.equal("at first", 2, desk.g.costs(0, 0, 0));
        desk.g.price(0, 0);
        CHECK.equal("the least", 0, desk.g.costs(0, 0, 0));
        desk.g.price(0, 1000);
        CHECK.equal("the greatest", 2000, desk.g.costs(0, 0, 0));
        CHECK.illegal("a refused price", () -> desk.g.price(0, 1001));
        CHECK.equal("a refused price is none", 2000, desk.g.costs(0, 0, 0));
    }

    private static void priceOfTheLanguage() {
        CHECK.edge(20, "It costs the price of the language");
        Desk desk = desk();
        desk.letter(desk.clause(NONE, "a b c"));
        desk.text(0, 1, "a b");
        desk.text(0, 2, "a");
        for (int language = 0; language < 3; language++) {
            desk.g.price(language, 10 * language + 7);
        }
        CHECK.equal("language 0", 21, desk.g.costs(0, 0, 0));
        CHECK.equal("language 1", 34, desk.g.costs(0, 0, 1));
        CHECK.equal("language 2", 27, desk.g.costs(0, 0, 2));
    }
}
