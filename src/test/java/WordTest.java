/** Promises 4 and 5: word, form; and the forms as letters show them. */
public final class WordTest {
    private static final Check CHECK = new Check();
    private static final int NONE = Glosstemplate.NONE;
    private static final String CASES = "ngda";
    private static final String NUMBERS = "sp";

    public static void main(String[] args) {
        wordNumbers();
        wordIsRefused();
        twelveWords();
        formOfEndings();
        formOfWords();
        formIsRefused();
        formOrderOfExceptions();
        formsByGrammar();
        formsByLanguage();
        vowels();
        CHECK.end();
    }

    private static void wordNumbers() {
        Desk desk = new Desk();
        CHECK.equal("first word", 0, desk.word("a"));
        CHECK.equal("a word takes the buffer", 0, desk.g.clear());
        CHECK.equal("second word", 1, desk.word("abcdefghij"));
        CHECK.equal("a same word", 2, desk.word("a"));
        CHECK.equal("a to z", 3, desk.word("az"));
    }

    private static void wordIsRefused() {
        Desk desk = new Desk();
        CHECK.refused("empty stem", () -> desk.g.word());
        String[] bad = {"abcdefghijk", "A", "aB", "a b", "a.", "a1", "`", "{", "a[", "\u00e4", "a\u0161"};
        for (String stem : bad) {
            desk.type(stem);
            CHECK.refused("stem " + stem, () -> desk.g.word());
            CHECK.equal("an exception leaves the buffer", stem.length(), desk.g.clear());
        }
        CHECK.equal("refused words do not count", 0, desk.word("b"));
    }

    private static void twelveWords() {
        Desk desk = new Desk();
        for (int i = 0; i < 12; i++) {
            CHECK.equal("word", i, desk.word("w" + (char) ('a' + i)));
        }
        desk.type("wm");
        CHECK.refused("thirteenth word", () -> desk.g.word());
        CHECK.equal("an exception leaves the buffer", 2, desk.g.clear());
        CHECK.equal("data of the last word", 0, desk.g.data(11, 0));
        CHECK.outside("data of no word", () -> desk.g.data(12, 0));
    }

    private static void formOfEndings() {
        Desk desk = new Desk();
        CHECK.equal("an ending before any word", 4, desk.ending(0, 0, "abcz"));
        CHECK.equal("an ending takes the buffer", 0, desk.g.clear());
        CHECK.equal("an empty ending", 0, desk.ending(2, 7, ""));
        int word = desk.word("kal");
        CHECK.same("an ending comes behind", "Kalabcz", shown(desk, 0, word, "[0ns]"));
        CHECK.equal("another ending", 1, desk.ending(0, 0, "x"));
        CHECK.same("it comes in place", "Kalx", shown(desk, 0, word, "[0ns]"));
        CHECK.equal("an empty ending again", 0, desk.ending(0, 0, ""));
        CHECK.same("it is none", "Kal", shown(desk, 0, word, "[0ns]"));
    }

    private static void formOfWords() {
        Desk desk = new Desk();
        int word = desk.word("tot");
        int other = desk.word("kal");
        desk.ending(1, 5, "s");
        CHECK.equal("an own form", 10, desk.own(1, word, 5, "abcdefghiz"));
        CHECK.equal("a form takes the buffer", 0, desk.g.clear());
        CHECK.same("the own form", "Abcdefghiz", shown(desk, 1, word, "[0dp]"));
        CHECK.same("no other word's", "Kals", shown(desk, 1, other, "[0dp]"));
        CHECK.equal("another own form", 1, desk.own(1, word, 5, "b"));
        CHECK.same("it comes in place", "B", shown(desk, 1, word, "[0dp]"));
        desk.ending(1, 5, "en");
        CHECK.same("an ending does not touch it", "B", shown(desk, 1, word, "[0dp]"));
        CHECK.equal("an own form like the stem", 3, desk.own(1, word, 5, "tot"));
        CHECK.same("it has no ending", "Tot", shown(desk, 1, word, "[0dp]"));
    }

    private static void formIsRefused() {
        Desk desk = new Desk();
        int word = desk.word("kal");
        CHECK.refused("an empty own form", () -> desk.g.form(0, word, 0));
        String[] bad = {"abcde", "A", "a b", "a.", "1", "[", "`", "{", "\u00e4"};
        for (String ending : bad) {
            desk.type(ending);
            CHECK.refused("ending " + ending, () -> desk.g.form(0, NONE, 0));
            CHECK.equal("an exception leaves the buffer", ending.length(), desk.g.clear());
        }
        String[] worse = {"abcdefghijk", "A", "a b", "a.", "1", "[", "`", "{", "\u00e4"};
        for (String form : worse) {
            desk.type(form);
            CHECK.refused("form " + form, () -> desk.g.form(0, word, 0));
            CHECK.equal("an exception leaves the buffer", form.length(), desk.g.clear());
        }
        CHECK.same("nothing has changed", "Kal", shown(desk, 0, word, "[0ns]"));
    }

    private static void formOrderOfExceptions() {
        Desk desk = new Desk();
        int word = desk.word("kal");
        desk.type("!");
        int[] languages = {-1, 3, Integer.MIN_VALUE, Integer.MAX_VALUE};
        for (int language : languages) {
            CHECK.outside("language", () -> desk.g.form(language, word, 8));
            CHECK.outside("language", () -> desk.g.form(language, NONE, 0));
        }
        int[] words = {-2, 1, 12, Integer.MIN_VALUE, Integer.MAX_VALUE};
        for (int none : words) {
            CHECK.outside("word", () -> desk.g.form(0, none, -1));
            CHECK.outside("word", () -> desk.g.form(2, none, 7));
        }
        int[] grammars = {-1, 8, Integer.MIN_VALUE, Integer.MAX_VALUE};
        for (int grammar : grammars) {
            CHECK.illegal("grammar", () -> desk.g.form(0, word, grammar));
            CHECK.illegal("grammar", () -> desk.g.form(2, NONE, grammar));
        }
        CHECK.refused("form", () -> desk.g.form(2, word, 7));
        CHECK.refused("ending", () -> desk.g.form(2, NONE, 7));
        CHECK.equal("an exception leaves the buffer", 1, desk.g.clear());
    }

    private static void formsByGrammar() {
        for (int shown = 0; shown < 8; shown++) {
            Desk desk = new Desk();
            int word = desk.word("kal");
            int other = desk.word("tot");
            for (int grammar = 0; grammar < 8; grammar++) {
                desk.ending(1, grammar, "r" + (char) ('a' + grammar));
                desk.own(1, other, grammar, "own" + (char) ('p' + grammar));
            }
            String slot = "[0" + CASES.charAt(shown / 2) + NUMBERS.charAt(shown % 2) + "]";
            CHECK.same("form " + slot, "Kalr" + (char) ('a' + shown), shown(desk, 1, word, slot));
            CHECK.same("own form " + slot, "Own" + (char) ('p' + shown), shown(desk, 1, other, slot));
            CHECK.same("in another language " + slot, "Tot", shown(desk, 0, other, slot));
        }
    }

    private static void formsByLanguage() {
        Desk desk = new Desk();
        int word = desk.word("kal");
        int other = desk.word("tot");
        for (int language = 0; language < 3; language++) {
            desk.ending(language, 6, "x" + (char) ('a' + language));
        }
        desk.own(2, other, 6, "third");
        desk.own(0, other, 6, "first");
        CHECK.same("language 0", "Kalxa", shown(desk, 0, word, "[0as]"));
        CHECK.same("language 1", "Kalxb", shown(desk, 1, word, "[0as]"));
        CHECK.same("language 2", "Kalxc", shown(desk, 2, word, "[0as]"));
        CHECK.same("own in language 0", "First", shown(desk, 0, other, "[0as]"));
        CHECK.same("none in language 1", "Totxb", shown(desk, 1, other, "[0as]"));
        CHECK.same("own in language 2", "Third", shown(desk, 2, other, "[0as]"));
        CHECK.same("in another number", "Tot", shown(desk, 2, other, "[0ap]"));
    }

    private static void vowels() {
        for (char last = 'a'; last <= 'z'; last++) {
            for (char first = 'a'; first <= 'z'; first++) {
                Desk desk = new Desk();
                int word = desk.word("ro" + last);
                desk.ending(0, 0, first + "n");
                boolean out = "aeiou".indexOf(last) >= 0 && "aeiou".indexOf(first) >= 0;
                String due = "Ro" + (out ? "" : last) + first + "n";
                CHECK.same("a stem with " + last + " and an ending with " + first, due, shown(desk, 0, word, "[0ns]"));
            }
        }
        Desk desk = new Desk();
        int word = desk.word("a");
        int twice = desk.word("koo");
        CHECK.same("a vowel and no ending", "A", shown(desk, 0, word, "[0ns]"));
        desk.ending(0, 0, "e");
        CHECK.same("nothing is left of the stem", "E", shown(desk, 0, word, "[0ns]"));
        CHECK.same("one letter is left out", "Koe", shown(desk, 0, twice, "[0ns]"));
        desk.ending(0, 0, "na");
        CHECK.same("the ending begins with none", "Koona", shown(desk, 0, twice, "[0ns]"));
        desk.own(0, word, 0, "ao");
        CHECK.same("an own form has no rule", "Ao", shown(desk, 0, word, "[0ns]"));
    }

    /** Shows a text as it is built with a word in all slots, by either way, on the first clause. */
    private static String shown(Desk desk, int language, int word, String text) {
        if (Check.outcome(() -> desk.g.isLinked(0)).startsWith("Index")) {
            desk.letter(desk.g.clause(NONE));
            desk.g.data(0, 0);
        }
        desk.text(0, language, text);
        desk.g.fill(0, 0, word);
        String built = desk.built(0, 0, language);
        CHECK.same("built anew", built, desk.builtAnew(0, 0, language));
        return built;
    }
}
