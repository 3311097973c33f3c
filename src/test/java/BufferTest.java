/** Promises 1, 2, 3 and 8: a new object, type, clear, fault. */
public final class BufferTest {
    private static final Check CHECK = new Check();

    public static void main(String[] args) {
        newObject();
        typeCounts();
        typeIsRefused();
        clearEmpties();
        faultOfTexts();
        faultOfBrokenTexts();
        faultOfSlots();
        faultAtTheMost();
        CHECK.end();
    }

    private static void newObject() {
        Glosstemplate g = new Glosstemplate();
        CHECK.equal("clear of a new object", 0, g.clear());
        CHECK.equal("fault of a new object", 0, g.fault());
        CHECK.refused("word of a new object", () -> g.word());
        CHECK.outside("data of a new object", () -> g.data(0, 0));
        CHECK.outside("form of a new object", () -> g.form(0, 0, 0));
        CHECK.outside("text of a new object", () -> g.text(0, 0));
        CHECK.outside("isLinked of a new object", () -> g.isLinked(0));
        CHECK.outside("sample of a new object", () -> g.sample(0, 0));
        CHECK.outside("put of a new object", () -> g.put(0, 0));
        for (int language = 0; language < 3; language++) {
            CHECK.equal("first price", 1, g.price(language, 1));
        }
        CHECK.equal("first letter", 0, g.letter());
        CHECK.equal("first clause", 0, g.clause(Glosstemplate.NONE));
    }

    private static void typeCounts() {
        Glosstemplate g = new Glosstemplate();
        char[] signs = {'a', 'Z', ' ', '[', 0, 255, 256, 65535};
        for (int i = 0; i < signs.length; i++) {
            CHECK.equal("type counts", i + 1, g.type(signs[i]));
        }
        Glosstemplate other = new Glosstemplate();
        CHECK.equal("another object has a buffer of its own", 1, other.type('a'));
    }

    private static void typeIsRefused() {
        Glosstemplate g = new Glosstemplate();
        for (int i = 1; i <= 60; i++) {
            CHECK.equal("type up to the most", i, g.type('a'));
        }
        CHECK.refused("type of the 61st", () -> g.type('!'));
        CHECK.refused("type of the 61st again", () -> g.type('a'));
        CHECK.equal("a refused sign is not there", Glosstemplate.NONE, g.fault());
        CHECK.equal("a refused sign does not count", 60, g.clear());
        CHECK.equal("type after clear", 1, g.type('a'));
    }

    private static void clearEmpties() {
        Desk desk = new Desk();
        desk.type("!?");
        CHECK.equal("clear of two", 2, desk.g.clear());
        CHECK.equal("clear of none", 0, desk.g.clear());
        desk.type("ab");
        CHECK.equal("a cleared sign is gone", Glosstemplate.NONE, desk.g.fault());
        CHECK.equal("clear of two others", 2, desk.g.clear());
        CHECK.equal("fault of a cleared buffer", 0, desk.g.fault());
    }

    private static void faultOfTexts() {
        Desk desk = new Desk();
        String[] texts = {"a", "z", " ", ".", "m. n", "..", "  ", "[0ns]", "[4ap]", "[1gs][2dp]", "x[3ns]. y"};
        for (String text : texts) {
            CHECK.equal("fault of " + text, Glosstemplate.NONE, desk.faultOf(text));
        }
        desk.type("a!");
        CHECK.equal("fault", 1, desk.g.fault());
        CHECK.equal("fault leaves the buffer", 2, desk.g.clear());
    }

    private static void faultOfBrokenTexts() {
        Desk desk = new Desk();
        CHECK.equal("empty text", 0, desk.g.fault());
        char[] bad = {'A', 'Z', '0', '9', ']', ',', '!', '`', '{', '@', '-', '/', 0, 9, 10, 128, 228, 353, 65535};
        for (char sign : bad) {
            CHECK.equal("sign " + (int) sign, 0, desk.faultOf(String.valueOf(sign)));
            CHECK.equal("ab and sign " + (int) sign, 2, desk.faultOf("ab" + sign + "c!"));
        }
        CHECK.equal("a bracket too many", 5, desk.faultOf("[0ns]]"));
        CHECK.equal("the first of two", 1, desk.faultOf("aB[9"));
    }

    private static void faultOfSlots() {
        Desk desk = new Desk();
        CHECK.equal("slot 5", 1, desk.faultOf("[5ns]"));
        CHECK.equal("slot /", 1, desk.faultOf("[/ns]"));
        CHECK.equal("slot without number", 1, desk.faultOf("[ns]"));
        CHECK.equal("slot in a slot", 1, desk.faultOf("[[0ns]"));
        CHECK.equal("empty slot", 1, desk.faultOf("[]"));
        CHECK.equal("case x", 2, desk.faultOf("[0xs]"));
        CHECK.equal("case s", 2, desk.faultOf("[0ss]"));
        CHECK.equal("case N", 2, desk.faultOf("[0Ns]"));
        CHECK.equal("slot in place of a case", 2, desk.faultOf("[0[0ns]"));
        CHECK.equal("number n", 3, desk.faultOf("[0nn]"));
        CHECK.equal("number ]", 3, desk.faultOf("[0n]"));
        CHECK.equal("no end", 4, desk.faultOf("[0nsa"));
        CHECK.equal("another slot for an end", 4, desk.faultOf("[0ns[0ns]"));
        CHECK.equal("ends behind [", 1, desk.faultOf("["));
        CHECK.equal("ends behind the slot", 2, desk.faultOf("[0"));
        CHECK.equal("ends behind the case", 3, desk.faultOf("[0n"));
        CHECK.equal("ends behind the number", 4, desk.faultOf("[0ns"));
        CHECK.equal("ends in a later slot", 9, desk.faultOf("[0ns] a[1"));
        for (char number = '0'; number <= '4'; number++) {
            for (char c : "ngda".toCharArray()) {
                for (char n : "sp".toCharArray()) {
                    CHECK.equal("a slot", Glosstemplate.NONE, desk.faultOf("[" + number + c + n + "]"));
                }
            }
        }
    }

    private static void faultAtTheMost() {
        Desk desk = new Desk();
        String most = "abcdefghij".repeat(6);
        CHECK.equal("sixty letters", Glosstemplate.NONE, desk.faultOf(most));
        CHECK.equal("sixty signs that end within a slot", 60, desk.faultOf(most.substring(1) + "["));
        CHECK.equal("sixty signs and a bad last one", 59, desk.faultOf(most.substring(1) + "]"));
        CHECK.equal("twelve slots", Glosstemplate.NONE, desk.faultOf("[0ns]".repeat(12)));
    }
}
