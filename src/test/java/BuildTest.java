/** Promises 18, 19 and 20: sign, signAnew, costs. */
public final class BuildTest {
    private static final Check CHECK = new Check();
    private static final int NONE = Glosstemplate.NONE;
    private static final int[] NEVER = {Integer.MIN_VALUE, -2, -1, 12, Integer.MAX_VALUE};

    public static void main(String[] args) {
        textsAndCosts();
        manyClauses();
        byConditions();
        withoutTexts();
        byLanguages();
        placesAtTheEnd();
        longestLetter();
        signIsRefused();
        costsByPrice();
        costsIsRefused();
        CHECK.end();
    }

    /** A desk with the words kal, with the endings e and s in language 0, and ato; data 0 with both. */
    private static Desk desk(int bits) {
        Desk desk = new Desk();
        desk.word("kal");
        desk.word("ato");
        desk.ending(0, 1, "e");
        desk.ending(0, 2, "s");
        desk.own(0, 1, 6, "atum");
        desk.g.data(0, bits);
        desk.g.fill(0, 1, 1);
        return desk;
    }

    private static void shown(Desk desk, int letter, String due, int words) {
        CHECK.same("sign", due, desk.built(letter, 0, 0));
        CHECK.same("signAnew", due, desk.builtAnew(letter, 0, 0));
        CHECK.equal("costs of " + due, words, desk.g.costs(letter, 0, 0));
    }

    private static void textsAndCosts() {
        String[][] rows = {
            {"abc", "Abc", "1"},
            {"z", "Z", "1"},
            {" ", " ", "0"},
            {".", ".", "0"},
            {"...", "...", "0"},
            {"a b", "A b", "2"},
            {"a  b", "A  b", "2"},
            {" a b ", " A b ", "2"},
            {"a.b", "A.B", "2"},
            {"a. b c", "A. B c", "3"},
            {"a.  .  b c", "A.  .  B c", "3"},
            {".a", ".A", "1"},
            {"ab.", "Ab.", "1"},
            {"[0ns]", "Kal", "1"},
            {"[0np]", "Kale", "1"},
            {"[1np]", "Ate", "1"},
            {"[1gs]", "Atos", "1"},
            {"[1as]", "Atum", "1"},
            {"x[1as]y", "Xatumy", "1"},
            {"x [1as] y", "X atum y", "3"},
            {"[0ns][1ns]", "Kalato", "1"},
            {"[0ns].[1ns]", "Kal.Ato", "2"},
            {"[0ns]. [1as].[0np]", "Kal. Atum.Kale", "3"},
            {" [0gs]a. a[0ns]", " Kalsa. Akal", "2"},
            {"[2ns][3ns] [4ns]", "Kalkal kal", "2"},
        };
        for (String[] row : rows) {
            Desk desk = desk(0);
            desk.letter(desk.clause(NONE, row[0]));
            shown(desk, 0, row[1], row[2].charAt(0) - '0');
        }
    }

    private static void manyClauses() {
        Desk desk = desk(0);
        desk.letter();
        shown(desk, 0, "", 0);
        desk.letter(desk.clause(NONE, "ab"), desk.clause(NONE, "cd."), desk.clause(NONE, "[0ns] e"));
        shown(desk, 1, "Ab cd. Kal e", 4);
        desk.letter(desk.clause(NONE, "."), 0, desk.clause(NONE, " "), desk.clause(NONE, "[1ns]"), 1, 2);
        shown(desk, 2, ". Ab   ato cd. Kal e", 5);
        desk.letter(4, 0);
        shown(desk, 3, "  Ab", 1);
        desk.letter(0, 4);
        shown(desk, 4, "Ab  ", 1);
    }

    private static void byConditions() {
        Desk desk = desk(1 + 128);
        int on = desk.clause(0, "on.");
        int off = desk.clause(1, "off.");
        int last = desk.clause(7, "last");
        int free = desk.clause(NONE, "free");
        desk.letter(off, on, free, last);
        shown(desk, 0, "On. Free last", 3);
        desk.letter(free, off);
        shown(desk, 1, "Free", 1);
        desk.letter(free, off, last);
        shown(desk, 2, "Free last", 2);
        desk.letter(off);
        shown(desk, 3, "", 0);
        for (int bit = 0; bit < 8; bit++) {
            Desk other = desk(1 << bit);
            other.letter();
            for (int condition = 2; condition < 8; condition++) {
                other.g.put(0, other.clause(condition, "x" + (char) ('a' + condition)));
            }
            shown(other, 0, bit < 2 ? "" : "X" + (char) ('a' + bit), bit < 2 ? 0 : 1);
        }
    }

    private static void withoutTexts() {
        Desk desk = desk(0);
        int none = desk.g.clause(NONE);
        int a = desk.clause(NONE, "a");
        int b = desk.clause(NONE, "b");
        int other = desk.g.clause(NONE);
        desk.text(other, 1, "c");
        desk.letter(none, a, other, b);
        shown(desk, 0, "A b", 2);
        desk.letter(a, none, other);
        shown(desk, 1, "A", 1);
        desk.letter(none, other);
        shown(desk, 2, "", 0);
        desk.g.relate(a, other, 0, 1);
        desk.g.relate(a, b, 1, 2);
        shown(desk, 0, "A b", 2);
    }

    private static void byLanguages() {
        Desk desk = desk(0);
        desk.ending(1, 1, "os");
        desk.ending(2, 1, "uo");
        int clause = desk.g.clause(NONE);
        desk.letter(clause);
        for (int language = 0; language < 3; language++) {
            desk.text(clause, language, "x".repeat(language) + "[1np]");
        }
        String[] due = {"Ate", "Xatos", "Xxatuo"};
        for (int language = 0; language < 3; language++) {
            CHECK.same("sign", due[language], desk.built(0, 0, language));
            CHECK.same("signAnew", due[language], desk.builtAnew(0, 0, language));
        }
    }

    private static void placesAtTheEnd() {
        Desk desk = desk(0);
        desk.letter(desk.clause(NONE, "a[0ns]"));
        desk.letter();
        CHECK.equal("the last sign", 'l', desk.g.sign(0, 0, 0, 3));
        CHECK.equal("the last sign anew", 'l', desk.g.signAnew(0, 0, 0, 3));
        for (int place : new int[] {4, 5, 60, 2000, Integer.MAX_VALUE}) {
            CHECK.equal("behind", 0, desk.g.sign(0, 0, 0, place));
            CHECK.equal("behind anew", 0, desk.g.signAnew(0, 0, 0, place));
            CHECK.equal("of none", 0, desk.g.sign(1, 0, 0, place));
            CHECK.equal("of none anew", 0, desk.g.signAnew(1, 0, 0, place));
        }
        CHECK.equal("of none at 0", 0, desk.g.sign(1, 0, 0, 0));
        CHECK.equal("of none at 0 anew", 0, desk.g.signAnew(1, 0, 0, 0));
    }

    private static void longestLetter() {
        StringBuilder due = new StringBuilder();
        for (int i = 0; i < 6; i++) {
            due.append(i == 0 ? "" : " ").append("abcdefghijklmn".repeat(12));
        }
        due.setCharAt(0, 'A');
        // Fifty places an object: an object answers 512 calls only.
        for (int from = 0; from <= due.length(); from += 50) {
            Desk desk = withLongestLetter();
            for (int place = from; place < from + 50; place++) {
                int sign = place < due.length() ? due.charAt(place) : 0;
                CHECK.equal("sign at " + place, sign, desk.g.sign(0, 0, 2, place));
                CHECK.equal("signAnew at " + place, sign, desk.g.signAnew(0, 0, 2, place));
            }
            CHECK.equal("costs", 6, desk.g.costs(0, 0, 2));
        }
    }

    private static Desk withLongestLetter() {
        Desk desk = new Desk();
        desk.word("abcdefghij");
        desk.ending(2, 7, "klmn");
        desk.g.data(0, 0);
        desk.g.letter();
        for (int i = 0; i < 6; i++) {
            desk.g.clause(NONE);
            desk.text(i, 2, "[4ap]".repeat(12));
            desk.g.put(0, i);
        }
        return desk;
    }

    private static void signIsRefused() {
        Desk desk = desk(0);
        CHECK.outside("no letters", () -> desk.g.sign(0, 0, 0, 0));
        CHECK.outside("no letters", () -> desk.g.signAnew(0, 0, 0, 0));
        desk.letter(desk.clause(NONE, "a"));
        for (int none : NEVER) {
            CHECK.outside("letter " + none, () -> desk.g.sign(none, 0, 0, 0));
            CHECK.outside("data " + none, () -> desk.g.sign(0, none, 0, 0));
            CHECK.outside("language " + none, () -> desk.g.sign(0, 0, none, 0));
            CHECK.outside("letter " + none, () -> desk.g.signAnew(none, 0, 0, 0));
            CHECK.outside("data " + none, () -> desk.g.signAnew(0, none, 0, 0));
            CHECK.outside("language " + none, () -> desk.g.signAnew(0, 0, none, 0));
        }
        for (int below : new int[] {-1, -2, Integer.MIN_VALUE}) {
            CHECK.outside("place " + below, () -> desk.g.sign(0, 0, 0, below));
            CHECK.outside("place " + below, () -> desk.g.signAnew(0, 0, 0, below));
        }
        CHECK.outside("letter 1", () -> desk.g.sign(1, 0, 0, 0));
        CHECK.outside("data 1", () -> desk.g.sign(0, 1, 0, 0));
        CHECK.outside("language 3", () -> desk.g.sign(0, 0, 3, 0));
        CHECK.outside("letter 1", () -> desk.g.signAnew(1, 0, 0, 0));
        CHECK.outside("data 1", () -> desk.g.signAnew(0, 1, 0, 0));
        CHECK.outside("language 3", () -> desk.g.signAnew(0, 0, 3, 0));
    }

    private static void costsByPrice() {
        Desk desk = desk(0);
        int clause = desk.clause(NONE, "a b. c");
        desk.text(clause, 1, "a b");
        desk.letter(clause);
        desk.type("xy");
        CHECK.equal("at first", 3, desk.g.costs(0, 0, 0));
        desk.g.price(0, 7);
        CHECK.equal("price 7", 21, desk.g.costs(0, 0, 0));
        CHECK.equal("language 1", 2, desk.g.costs(0, 0, 1));
        CHECK.equal("language 2", 0, desk.g.costs(0, 0, 2));
        desk.g.price(1, 1000);
        CHECK.equal("price 1000", 2000, desk.g.costs(0, 0, 1));
        desk.g.price(0, 0);
        CHECK.equal("price 0", 0, desk.g.costs(0, 0, 0));
        CHECK.equal("costs leaves the buffer", 2, desk.g.clear());
        Desk other = desk(0);
        other.letter();
        for (int i = 0; i < 6; i++) {
            other.g.put(0, other.clause(NONE, "a.".repeat(30)));
        }
        other.g.price(0, 1000);
        CHECK.equal("the dearest letter", 180000, other.g.costs(0, 0, 0));
    }

    private static void costsIsRefused() {
        Desk desk = desk(0);
        CHECK.outside("no letters", () -> desk.g.costs(0, 0, 0));
        desk.letter(desk.clause(NONE, "a"));
        for (int none : NEVER) {
            CHECK.outside("letter " + none, () -> desk.g.costs(none, 0, 0));
            CHECK.outside("data " + none, () -> desk.g.costs(0, none, 0));
            CHECK.outside("language " + none, () -> desk.g.costs(0, 0, none));
        }
        CHECK.outside("letter 1", () -> desk.g.costs(1, 0, 0));
        CHECK.outside("data 1", () -> desk.g.costs(0, 1, 0));
        CHECK.outside("language 3", () -> desk.g.costs(0, 0, 3));
    }
}
