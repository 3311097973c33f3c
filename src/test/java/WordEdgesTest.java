/** The boundary sentences of promises 4 word and 5 form, and of the forms as letters show them. */
public final class WordEdgesTest {
    private static final Check CHECK = new Check();
    private static final int NONE = Glosstemplate.NONE;
    private static final String CASES = "ngda";
    private static final String NUMBERS = "sp";
    private static final String[] NO_LETTERS = {
        "A", "Z", "`", "{", " ", ".", "0", "[", "\0", "\u007f", "\u00e1", "\u0161", "\uff41", "aA", "Aa", "a b",
        "a.", "ab\0",
    };

    public static void main(String[] args) {
        stemOfOneToTen();
        stemOfLettersAToZ();
        numberedFromZero();
        twelveWords();
        wordTakesTheBuffer();
        noSuchLanguage();
        noSuchWord();
        grammarOutOfRange();
        grammarByCaseAndNumber();
        endingOfUpToFour();
        ownFormOfOneToTen();
        formOfLetters();
        formReturnsItsSigns();
        formTakesTheBuffer();
        ownFormComesFirst();
        sameInAllLanguages();
        lastWordLastGrammar();
        endingsStandAlone();
        ownFormsOfAllWords();
        ownFormsOfAllGrammars();
        vowelsMeet();
        oneVowelOnly();
        noVowelMeets();
        CHECK.end();
    }

    private static void stemOfOneToTen() {
        CHECK.edge(4, "a stem, of 1 to 10 letters");
        Desk desk = new Desk();
        CHECK.refused("no letter", () -> desk.g.word());
        CHECK.equal("one letter", 0, desk.word("a"));
        CHECK.equal("ten letters", 1, desk.word("abcdefghij"));
        for (int length : new int[] {11, 12, 59, 60}) {
            desk.type("a".repeat(length));
            CHECK.refused(length + " letters", () -> desk.g.word());
            CHECK.equal("an exception leaves the buffer", length, desk.g.clear());
        }
        CHECK.same("one letter", "A", shown(desk, 0, 0, "[0ns]"));
        CHECK.same("ten letters", "Abcdefghij", shown(desk, 0, 1, "[0ns]"));
    }

    private static void stemOfLettersAToZ() {
        CHECK.edge(4, "letters a to z");
        Desk desk = new Desk();
        CHECK.equal("a", 0, desk.word("a"));
        CHECK.equal("z", 1, desk.word("z"));
        for (String stem : NO_LETTERS) {
            desk.type(stem);
            CHECK.refused("stem of sign " + (int) stem.charAt(0), () -> desk.g.word());
            CHECK.equal("an exception leaves the buffer", stem.length(), desk.g.clear());
        }
        desk.type("abcdefghi!");
        CHECK.refused("a bad tenth sign", () -> desk.g.word());
        desk.g.clear();
        CHECK.equal("refused words do not count", 2, desk.word("m"));
    }

    private static void numberedFromZero() {
        CHECK.edge(4, "Words are numbered from 0");
        Desk desk = new Desk();
        CHECK.equal("the first", 0, desk.word("a"));
        CHECK.equal("a same one", 1, desk.word("a"));
        CHECK.equal("the third", 2, desk.word("b"));
    }

    private static void twelveWords() {
        CHECK.edge(4, "IllegalStateException if there are 12");
        Desk desk = new Desk();
        for (int i = 0; i < 11; i++) {
            desk.word("a");
        }
        CHECK.equal("the twelfth", 11, desk.word("last"));
        CHECK.refused("no stem and no room", () -> desk.g.word());
        desk.type("more");
        CHECK.refused("the thirteenth", () -> desk.g.word());
        CHECK.refused("the thirteenth again", () -> desk.g.word());
        CHECK.equal("an exception leaves the buffer", 4, desk.g.clear());
        CHECK.outside("there is none", () -> desk.g.data(12, 0));
        CHECK.same("the twelfth is as it was", "Last", shown(desk, 0, 11, "[0ns]"));
    }

    private static void wordTakesTheBuffer() {
        CHECK.edge(4, "it is taken, and empty then");
        Desk desk = new Desk();
        desk.word("abcdefghij");
        CHECK.equal("clear", 0, desk.g.clear());
        CHECK.refused("no other word of it", () -> desk.g.word());
    }

    private static void noSuchLanguage() {
        CHECK.edge(5, "language: 0 to 2");
        Desk desk = new Desk();
        int word = desk.word("k");
        desk.type("ab");
        for (int language : Far.from(3)) {
            CHECK.outside("ending in " + language, () -> desk.g.form(language, NONE, 0));
            CHECK.outside("own form in " + language, () -> desk.g.form(language, word, 0));
            CHECK.outside("before grammar, in " + language, () -> desk.g.form(language, word, 8));
        }
        CHECK.equal("an exception leaves the buffer", 2, desk.g.clear());
        for (int language = 0; language < 3; language++) {
            CHECK.same("nothing has changed", "K", shown(desk, language, word, "[0ns]"));
        }
        CHECK.equal("language 0", 1, desk.ending(0, 0, "a"));
        CHECK.equal("language 2", 1, desk.ending(2, 0, "c"));
        CHECK.same("language 0", "Ka", shown(desk, 0, word, "[0ns]"));
        CHECK.same("language 1", "K", shown(desk, 1, word, "[0ns]"));
        CHECK.same("language 2", "Kc", shown(desk, 2, word, "[0ns]"));
    }

    private static void noSuchWord() {
        CHECK.edge(5, "word: its number; NONE for the ending");
        Desk desk = new Desk();
        desk.type("ab");
        for (int none : Far.around(0)) {
            CHECK.outside("of no words, word " + none, () -> desk.g.form(0, none, 0));
        }
        CHECK.equal("NONE without words", 2, desk.g.form(0, NONE, 0));
        desk.word("k");
        desk.word("l");
        desk.type("b");
        for (int none : Far.around(2)) {
            CHECK.outside("of two words, word " + none, () -> desk.g.form(0, none, 0));
            CHECK.outside("before grammar, word " + none, () -> desk.g.form(0, none, -1));
        }
        CHECK.outside("word 12", () -> desk.g.form(0, 12, 0));
        CHECK.equal("the last word", 1, desk.g.form(0, 1, 0));
        CHECK.equal("the first word", 1, desk.own(0, 0, 0, "c"));
        CHECK.same("the first word", "C", shown(desk, 0, 0, "[0ns]"));
        CHECK.same("the last word", "B", shown(desk, 0, 1, "[0ns]"));
        CHECK.equal("the next one", 2, desk.word("m"));
        CHECK.same("the next one", "Mab", shown(desk, 0, 2, "[0ns]"));
    }

    private static void grammarOutOfRange() {
        CHECK.edge(5, "IllegalArgumentException if grammar is out of range");
        Desk desk = new Desk();
        int word = desk.word("k");
        desk.type("ab!");
        for (int grammar : Far.from(8)) {
            CHECK.illegal("ending of " + grammar, () -> desk.g.form(0, NONE, grammar));
            CHECK.illegal("own form of " + grammar, () -> desk.g.form(2, word, grammar));
        }
        CHECK.equal("an exception leaves the buffer", 3, desk.g.clear());
        CHECK.equal("0", 1, desk.ending(0, 0, "a"));
        CHECK.equal("7", 1, desk.ending(0, 7, "b"));
        CHECK.same("0 is n s", "Ka", shown(desk, 0, word, "[0ns]"));
        CHECK.same("7 is a p", "Kb", shown(desk, 0, word, "[0ap]"));
    }

    private static void grammarByCaseAndNumber() {
        CHECK.edge(5, "2 times the case, 0 n, 1 g, 2 d, 3 a, and the number, 0 s, 1 p, together");
        Desk desk = new Desk();
        int word = desk.word("k");
        for (int grammar = 0; grammar < 8; grammar++) {
            desk.ending(0, grammar, "r" + (char) ('a' + grammar));
            desk.own(1, word, grammar, "o" + (char) ('a' + grammar));
        }
        for (int grammar = 0; grammar < 8; grammar++) {
            String slot = "[0" + CASES.charAt(grammar / 2) + NUMBERS.charAt(grammar % 2) + "]";
            CHECK.same("ending " + grammar, "Kr" + (char) ('a' + grammar), shown(desk, 0, word, slot));
            CHECK.same("own form " + grammar, "O" + (char) ('a' + grammar), shown(desk, 1, word, slot));
        }
    }

    private static void endingOfUpToFour() {
        CHECK.edge(5, "an ending, of up to 4 letters, empty at first");
        Desk desk = new Desk();
        int word = desk.word("abcdefghij");
        CHECK.same("at first", "Abcdefghij", shown(desk, 2, word, "[0ap]"));
        CHECK.equal("four letters", 4, desk.ending(2, 7, "klmn"));
        CHECK.same("four letters", "Abcdefghijklmn", shown(desk, 2, word, "[0ap]"));
        for (int length : new int[] {5, 6, 10, 60}) {
            desk.type("x".repeat(length));
            CHECK.refused(length + " letters", () -> desk.g.form(2, NONE, 7));
            CHECK.equal("an exception leaves the buffer", length, desk.g.clear());
        }
        CHECK.same("they are none", "Abcdefghijklmn", shown(desk, 2, word, "[0ap]"));
        CHECK.equal("one letter", 1, desk.ending(2, 7, "x"));
        CHECK.same("one letter", "Abcdefghijx", shown(desk, 2, word, "[0ap]"));
        CHECK.equal("no letter", 0, desk.ending(2, 7, ""));
        CHECK.same("no letter", "Abcdefghij", shown(desk, 2, word, "[0ap]"));
    }

    private static void ownFormOfOneToTen() {
        CHECK.edge(5, "a form of its own, of 1 to 10 letters");
        Desk desk = new Desk();
        int word = desk.word("k");
        CHECK.refused("no letter", () -> desk.g.form(0, word, 0));
        CHECK.same("there is none", "K", shown(desk, 0, word, "[0ns]"));
        CHECK.equal("ten letters", 10, desk.own(0, word, 0, "abcdefghij"));
        for (int length : new int[] {11, 12, 60}) {
            desk.type("x".repeat(length));
            CHECK.refused(length + " letters", () -> desk.g.form(0, word, 0));
            CHECK.equal("an exception leaves the buffer", length, desk.g.clear());
        }
        CHECK.refused("no letter", () -> desk.g.form(0, word, 0));
        CHECK.same("ten letters", "Abcdefghij", shown(desk, 0, word, "[0ns]"));
        CHECK.equal("one letter", 1, desk.own(0, word, 0, "z"));
        CHECK.same("one letter", "Z", shown(desk, 0, word, "[0ns]"));
    }

    private static void formOfLetters() {
        CHECK.edge(5, "IllegalStateException if the buffer is no ending, or no form");
        Desk desk = new Desk();
        int word = desk.word("k");
        for (String form : NO_LETTERS) {
            desk.type(form);
            CHECK.refused("ending of sign " + (int) form.charAt(0), () -> desk.g.form(1, NONE, 3));
            CHECK.refused("own form of sign " + (int) form.charAt(0), () -> desk.g.form(1, word, 3));
            CHECK.equal("an exception leaves the buffer", form.length(), desk.g.clear());
        }
        CHECK.same("nothing has changed", "K", shown(desk, 1, word, "[0gp]"));
        desk.ending(1, 3, "az");
        CHECK.same("a to z", "Kaz", shown(desk, 1, word, "[0gp]"));
        desk.own(1, word, 3, "za");
        CHECK.same("z to a", "Za", shown(desk, 1, word, "[0gp]"));
    }

    private static void formReturnsItsSigns() {
        CHECK.edge(5, "Returns how many signs it has");
        Desk desk = new Desk();
        int word = desk.word("k");
        for (int length = 0; length <= 4; length++) {
            CHECK.equal("an ending", length, desk.ending(0, 0, "abcd".substring(0, length)));
        }
        for (int length = 1; length <= 10; length++) {
            CHECK.equal("an own form", length, desk.own(0, word, 0, "abcdefghij".substring(0, length)));
        }
    }

    private static void formTakesTheBuffer() {
        CHECK.edge(5, "it is taken, and empty then");
        Desk desk = new Desk();
        int word = desk.word("k");
        desk.ending(0, 0, "abcd");
        CHECK.equal("an ending", 0, desk.g.clear());
        desk.own(0, word, 0, "abcdefghij");
        CHECK.equal("an own form", 0, desk.g.clear());
        CHECK.refused("no other own form of it", () -> desk.g.form(0, word, 1));
    }

    private static void ownFormComesFirst() {
        CHECK.edge(5, "otherwise its form is the stem and the ending");
        Desk desk = new Desk();
        desk.word("ka");
        desk.word("lo");
        desk.ending(0, 0, "en");
        desk.own(0, 0, 0, "kao");
        CHECK.same("an own form has no ending", "Kao", shown(desk, 0, 0, "[0ns]"));
        CHECK.same("another word", "Len", shown(desk, 0, 1, "[0ns]"));
        CHECK.same("another number", "Ka", shown(desk, 0, 0, "[0np]"));
        CHECK.same("another case", "Ka", shown(desk, 0, 0, "[0gs]"));
        CHECK.same("another language", "Ka", shown(desk, 1, 0, "[0ns]"));
        desk.ending(0, 0, "x");
        CHECK.same("a later ending", "Kao", shown(desk, 0, 0, "[0ns]"));
        CHECK.same("a later ending of another word", "Lox", shown(desk, 0, 1, "[0ns]"));
    }

    private static void sameInAllLanguages() {
        CHECK.edge(5, "Words are the same in all languages");
        Desk desk = new Desk();
        desk.word("kal");
        desk.word("tot");
        for (int language = 0; language < 3; language++) {
            CHECK.same("word 0 in " + language, "Kal", shown(desk, language, 0, "[0ns]"));
            CHECK.same("word 1 in " + language, "Tot", shown(desk, language, 1, "[0ns]"));
        }
    }

    private static void lastWordLastGrammar() {
        CHECK.edge(5, "words at most 12, languages 0 to 2, grammar up to 7: the last own form of all");
        Desk desk = new Desk();
        for (int i = 0; i < 12; i++) {
            desk.word("w" + (char) ('a' + i));
        }
        desk.own(2, 11, 7, "last");
        desk.own(0, 0, 0, "first");
        CHECK.same("the last one", "Last", shown(desk, 2, 11, "[0ap]"));
        CHECK.same("the first one", "First", shown(desk, 0, 0, "[0ns]"));
        CHECK.same("the last word, the number before", "Wl", shown(desk, 2, 11, "[0as]"));
        CHECK.same("the last word, the language before", "Wl", shown(desk, 1, 11, "[0ap]"));
        CHECK.same("the word before", "Wk", shown(desk, 2, 10, "[0ap]"));
        CHECK.same("the first word, the next number", "Wa", shown(desk, 0, 0, "[0np]"));
        CHECK.same("the first word, the next language", "Wa", shown(desk, 1, 0, "[0ns]"));
        CHECK.same("the next word", "Wb", shown(desk, 0, 1, "[0ns]"));
    }

    private static void endingsStandAlone() {
        CHECK.edge(5, "A language has an ending for each case and number");
        Desk desk = new Desk();
        desk.word("k");
        desk.g.data(0, 0);
        desk.letter(desk.g.clause(NONE));
        for (int number = 0; number < 24; number++) {
            desk.ending(number / 8, number % 8, String.valueOf((char) ('a' + number)));
        }
        for (int language = 0; language < 3; language++) {
            StringBuilder due = new StringBuilder();
            for (int grammar = 0; grammar < 8; grammar++) {
                due.append('k').append((char) ('a' + 8 * language + grammar));
            }
            due.setCharAt(0, 'K');
            desk.text(0, language, "[0ns][0np][0gs][0gp][0ds][0dp][0as][0ap]");
            CHECK.same("language " + language, due.toString(), desk.built(0, 0, language));
        }
    }

    private static void ownFormsOfAllWords() {
        CHECK.edge(5, "A word may have a form of its own for a language: all words, all languages");
        Desk desk = new Desk();
        desk.letter(desk.g.clause(NONE));
        for (int word = 0; word < 12; word++) {
            desk.word("k");
            for (int language = 0; language < 3; language++) {
                desk.own(language, word, 5, "" + (char) ('a' + word) + (char) ('x' + language));
            }
        }
        desk.g.data(0, 0);
        for (int language = 0; language < 3; language++) {
            desk.text(0, language, ".[0dp]");
            for (int word = 0; word < 12; word++) {
                desk.g.fill(0, 0, word);
                String what = "word " + word + " in " + language;
                CHECK.equal(what, 'A' + word, desk.g.sign(0, 0, language, 1));
                CHECK.equal(what, 'x' + language, desk.g.sign(0, 0, language, 2));
            }
        }
    }

    private static void ownFormsOfAllGrammars() {
        CHECK.edge(5, "A word may have a form of its own for a language, a case and a number");
        Desk desk = new Desk();
        desk.word("k");
        desk.word("l");
        desk.g.data(0, 0);
        desk.g.fill(0, 1, 1);
        desk.letter(desk.g.clause(NONE));
        for (int number = 0; number < 24; number++) {
            desk.own(number / 8, 0, number % 8, String.valueOf((char) ('a' + number)));
            desk.own(number / 8, 1, number % 8, String.valueOf((char) ('b' + number)));
        }
        for (int language = 0; language < 3; language++) {
            String first = "abcdefghijklmnopqrstuvwx".substring(8 * language, 8 * language + 8);
            String second = "bcdefghijklmnopqrstuvwxy".substring(8 * language, 8 * language + 8);
            desk.text(0, language, "[0ns][0np][0gs][0gp][0ds][0dp][0as][0ap]");
            CHECK.same("word 0 in " + language, capital(first), desk.built(0, 0, language));
            desk.text(0, language, "[1ns][1np][1gs][1gp][1ds][1dp][1as][1ap]");
            CHECK.same("word 1 in " + language, capital(second), desk.built(0, 0, language));
        }
    }

    private static String capital(String signs) {
        return (char) (signs.charAt(0) - 'a' + 'A') + signs.substring(1);
    }

    private static void vowelsMeet() {
        CHECK.edge(5, "if the stem ends with one of a, e, i, o, u, and the ending begins with one of these");
        for (char last : "aeiou".toCharArray()) {
            for (char first : "aeiou".toCharArray()) {
                Desk desk = new Desk();
                int word = desk.word("k" + last);
                desk.ending(0, 0, String.valueOf(first));
                CHECK.same("a stem with " + last, "K" + first, shown(desk, 0, word, "[0ns]"));
            }
        }
    }

    private static void oneVowelOnly() {
        CHECK.edge(5, "the last letter of the stem is left out");
        Desk desk = new Desk();
        int one = desk.word("a");
        int ten = desk.word("uuuuuuuuuu");
        desk.ending(0, 0, "e");
        desk.ending(0, 1, "eioa");
        CHECK.same("a stem of one letter", "E", shown(desk, 0, one, "[0ns]"));
        CHECK.same("and four", "Eioa", shown(desk, 0, one, "[0np]"));
        CHECK.same("a stem of ten letters", "Uuuuuuuuue", shown(desk, 0, ten, "[0ns]"));
        CHECK.same("and four", "Uuuuuuuuueioa", shown(desk, 0, ten, "[0np]"));
        CHECK.same("an empty ending", "A", shown(desk, 0, one, "[0gs]"));
    }

    private static void noVowelMeets() {
        CHECK.edge(5, "one of a, e, i, o, u: no other letter");
        String others = "bcdfghjklmnpqrstvwxyz";
        for (char other : others.toCharArray()) {
            Desk desk = new Desk();
            int ends = desk.word("ka" + other);
            int begins = desk.word("ka");
            desk.ending(0, 0, "a");
            desk.ending(0, 1, other + "a");
            CHECK.same("a stem with " + other, "Ka" + other + "a", shown(desk, 0, ends, "[0ns]"));
            CHECK.same("an ending with " + other, "Ka" + other + "a", shown(desk, 0, begins, "[0np]"));
        }
    }

    /** Shows a text as it is built with a word in all slots, by either way, on the first clause. */
    private static String shown(Desk desk, int language, int word, String text) {
        if (Check.outcome(() -> desk.g.isLinked(0)).startsWith("Index")) {
            desk.letter(desk.g.clause(NONE));
            desk.g.data(0, 0);
        }
        desk.text(0, language, text);
        desk.g.fill(0, 0, word);
        String built = desk.built(0, 0, language);
        CHECK.equal("the last sign anew", built.charAt(built.length() - 1),
                desk.g.signAnew(0, 0, language, built.length() - 1));
        CHECK.equal("none behind it anew", 0, desk.g.signAnew(0, 0, language, built.length()));
        return built;
    }
}
