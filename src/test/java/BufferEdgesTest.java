/** The boundary sentences of promises 1 a new object, 2 type, 3 clear and 8 fault. */
public final class BufferEdgesTest {
    private static final Check CHECK = new Check();
    private static final int NONE = Glosstemplate.NONE;
    private static final String SIXTY = "abcdefghij".repeat(6);

    public static void main(String[] args) {
        noWords();
        noClauses();
        noLetters();
        noData();
        emptyBuffer();
        emptyEndings();
        priceOneAtFirst();
        constant();
        objectsShareNothing();
        returnsHowManyThereAre();
        sixtyAreThere();
        anySign();
        clearReturnsHowManyThereWere();
        clearMakesRoom();
        emptyTextHasFault0();
        aTextHasNoFault();
        outsideOfSlots();
        slotNumbers();
        slotCases();
        slotNumbersOfWords();
        slotEnds();
        endsWithinASlot();
        noMostOfSigns();
        firstOfSeveral();
        faultTakesNothing();
        CHECK.end();
    }

    private static void noWords() {
        CHECK.edge(1, "No words");
        Desk desk = new Desk();
        for (int word : Far.from(0)) {
            CHECK.outside("data of word " + word, () -> desk.g.data(word, 0));
        }
        desk.type("a");
        CHECK.outside("form of word 0", () -> desk.g.form(0, 0, 0));
        desk.g.clear();
        CHECK.equal("the first word", 0, desk.word("a"));
    }

    private static void noClauses() {
        CHECK.edge(1, "no clauses");
        Glosstemplate g = new Glosstemplate();
        for (int clause : Far.from(0)) {
            CHECK.outside("isLinked of " + clause, () -> g.isLinked(clause));
        }
        CHECK.outside("text", () -> g.text(0, 0));
        CHECK.outside("approve", () -> g.approve(0, 0));
        CHECK.outside("relate", () -> g.relate(0, 1, 0, 0));
        CHECK.equal("the first clause", 0, g.clause(NONE));
    }

    private static void noLetters() {
        CHECK.edge(1, "no letters");
        Glosstemplate g = new Glosstemplate();
        for (int letter : Far.from(0)) {
            CHECK.outside("sample of " + letter, () -> g.sample(letter, 0));
        }
        g.clause(NONE);
        CHECK.outside("put", () -> g.put(0, 0));
        CHECK.equal("the first letter", 0, g.letter());
    }

    private static void noData() {
        CHECK.edge(1, "no words, no clauses, no letters; so no data");
        Desk desk = new Desk();
        desk.word("a");
        desk.letter();
        CHECK.outside("fill", () -> desk.g.fill(0, 0, 0));
        CHECK.outside("faultOf", () -> desk.g.faultOf(0, 0, 0, 0));
        CHECK.outside("sign", () -> desk.g.sign(0, 0, 0, 0));
        CHECK.outside("signAnew", () -> desk.g.signAnew(0, 0, 0, 0));
        CHECK.outside("costs", () -> desk.g.costs(0, 0, 0));
        CHECK.equal("sample", NONE, desk.g.sample(0, 0));
        CHECK.equal("the first data", 0, desk.g.data(0, 0));
    }

    private static void emptyBuffer() {
        CHECK.edge(1, "an empty buffer");
        CHECK.equal("clear", 0, new Glosstemplate().clear());
        CHECK.equal("type", 1, new Glosstemplate().type('a'));
        CHECK.equal("fault", 0, new Glosstemplate().fault());
        CHECK.refused("word", () -> new Glosstemplate().word());
        CHECK.equal("form", 0, new Glosstemplate().form(0, NONE, 0));
    }

    private static void emptyEndings() {
        CHECK.edge(1, "a language has an ending for each case and number, empty at first");
        Desk desk = new Desk();
        desk.word("kala");
        desk.g.data(0, 0);
        desk.letter(desk.clause(NONE, "[0ns][0np][0gs][0gp][0ds][0dp][0as][0ap]"));
        desk.text(0, 1, "[0ns][0np][0gs][0gp][0ds][0dp][0as][0ap]");
        desk.text(0, 2, "[0ns][0np][0gs][0gp][0ds][0dp][0as][0ap]");
        for (int language = 0; language < 3; language++) {
            CHECK.same("language " + language, "K" + "kala".repeat(8).substring(1), desk.built(0, 0, language));
        }
    }

    private static void priceOneAtFirst() {
        CHECK.edge(1, "the price of the language, 1 at first");
        Glosstemplate g = new Glosstemplate();
        for (int language = 0; language < 3; language++) {
            CHECK.equal("language " + language, 1, g.price(language, 5));
        }
    }

    private static void constant() {
        CHECK.edge(1, "NONE = -1");
        CHECK.equal("NONE", -1, Glosstemplate.NONE);
    }

    private static void objectsShareNothing() {
        CHECK.edge(1, "a new object, beside one that is full");
        Desk full = new Desk();
        for (int i = 0; i < 12; i++) {
            full.word("a");
        }
        full.ending(0, 0, "en");
        full.own(0, 0, 1, "b");
        full.letter(full.clause(NONE, "x"));
        full.g.data(0, 0);
        full.g.price(0, 9);
        full.type("ab");
        Desk desk = new Desk();
        CHECK.equal("clear", 0, desk.g.clear());
        CHECK.equal("price", 1, desk.g.price(0, 1));
        CHECK.equal("word", 0, desk.word("k"));
        CHECK.equal("clause", 0, desk.clause(NONE, "[0ns] [0np]"));
        CHECK.equal("data", 0, desk.g.data(0, 0));
        CHECK.equal("letter", 0, desk.letter(0));
        CHECK.same("sign", "K k", desk.built(0, 0, 0));
        CHECK.equal("the other buffer", 2, full.g.clear());
    }

    private static void returnsHowManyThereAre() {
        CHECK.edge(2, "Returns how many there are");
        Glosstemplate g = new Glosstemplate();
        CHECK.equal("the first sign", 1, g.type('a'));
        CHECK.equal("the second sign", 2, g.type('a'));
        g.clear();
        CHECK.equal("the first sign behind clear", 1, g.type('a'));
        g.word();
        CHECK.equal("the first sign behind word", 1, g.type('a'));
        g.form(0, NONE, 0);
        CHECK.equal("the first sign behind form", 1, g.type('a'));
        g.text(g.clause(NONE), 0);
        CHECK.equal("the first sign behind text", 1, g.type('a'));
    }

    private static void sixtyAreThere() {
        CHECK.edge(2, "IllegalStateException if there are 60");
        Desk desk = new Desk();
        desk.type(SIXTY.substring(0, 58));
        CHECK.equal("the 59th", 59, desk.g.type('a'));
        CHECK.equal("the 60th", 60, desk.g.type('b'));
        CHECK.refused("the 61st", () -> desk.g.type('c'));
        CHECK.refused("the 61st again", () -> desk.g.type('!'));
        CHECK.equal("no bad sign is there", NONE, desk.g.fault());
        desk.g.text(desk.g.clause(NONE), 0);
        desk.word("a");
        desk.g.data(0, 0);
        desk.letter(0);
        CHECK.equal("the 59th sign", 'a', desk.g.sign(0, 0, 0, 58));
        CHECK.equal("the 60th sign", 'b', desk.g.sign(0, 0, 0, 59));
        CHECK.equal("no 61st sign", 0, desk.g.sign(0, 0, 0, 60));
        CHECK.equal("the buffer is empty then", 1, desk.g.type('c'));
    }

    private static void anySign() {
        CHECK.edge(2, "any sign");
        Glosstemplate g = new Glosstemplate();
        char[] signs = {0, 1, 10, 13, 31, 127, 128, 255, 256, 0x161, 0xd800, 0xdfff, 0xfffe, 0xffff};
        for (int i = 0; i < signs.length; i++) {
            CHECK.equal("sign " + (int) signs[i], i + 1, g.type(signs[i]));
        }
        CHECK.equal("all are there", signs.length, g.clear());
    }

    private static void clearReturnsHowManyThereWere() {
        CHECK.edge(3, "returns how many signs there were");
        Desk desk = new Desk();
        CHECK.equal("none", 0, desk.g.clear());
        desk.type("!");
        CHECK.equal("one", 1, desk.g.clear());
        CHECK.equal("none then", 0, desk.g.clear());
        desk.type(SIXTY.substring(1));
        CHECK.equal("59", 59, desk.g.clear());
        desk.type(SIXTY);
        CHECK.equal("60", 60, desk.g.clear());
    }

    private static void clearMakesRoom() {
        CHECK.edge(3, "Empties the buffer");
        Desk desk = new Desk();
        desk.type("!".repeat(60));
        CHECK.refused("it is full", () -> desk.g.type('a'));
        desk.g.clear();
        CHECK.equal("the fault of none", 0, desk.g.fault());
        CHECK.equal("the first sign", 1, desk.g.type('a'));
        CHECK.equal("no sign from before", NONE, desk.g.fault());
        desk.type(SIXTY.substring(1));
        CHECK.refused("it is full again", () -> desk.g.type('a'));
        CHECK.equal("and a text", NONE, desk.g.fault());
    }

    private static void emptyTextHasFault0() {
        CHECK.edge(8, "an empty text has the fault 0");
        Desk desk = new Desk();
        CHECK.equal("a new object", 0, desk.g.fault());
        desk.type("ab");
        desk.g.clear();
        CHECK.equal("behind clear", 0, desk.g.fault());
        desk.word("ab");
        CHECK.equal("behind word", 0, desk.g.fault());
    }

    private static void aTextHasNoFault() {
        CHECK.edge(8, "NONE if it is one");
        Desk desk = new Desk();
        for (String text : new String[] {"a", "z", " ", ".", "[0ns]", "[4ap]"}) {
            CHECK.equal("the least text " + text, NONE, desk.faultOf(text));
        }
        CHECK.equal("sixty signs", NONE, desk.faultOf(SIXTY));
        CHECK.equal("twelve slots", NONE, desk.faultOf("[4ap]".repeat(12)));
    }

    private static void outsideOfSlots() {
        CHECK.edge(8, "letters a to z, blanks, full stops, and slots");
        Desk desk = new Desk();
        for (char good : new char[] {'a', 'z', ' ', '.'}) {
            CHECK.equal("sign " + (int) good, NONE, desk.faultOf("m" + good));
        }
        char[] bad = {'a' - 1, 'z' + 1, ' ' - 1, ' ' + 1, '.' - 1, '.' + 1, '[' - 1, '[' + 1, 'A', 'Z', '0', '4',
            ']', 0, 127, 'a' + 128, 'a' + 256, ' ' + 256, '.' + 256, '[' + 256, 160, 0xff0e, 0xffff};
        for (char sign : bad) {
            CHECK.equal("sign " + (int) sign, 0, desk.faultOf(String.valueOf(sign)));
            CHECK.equal("a letter and sign " + (int) sign, 1, desk.faultOf("m" + sign));
            CHECK.equal("a slot and sign " + (int) sign, 5, desk.faultOf("[2dp]" + sign));
        }
    }

    private static void slotNumbers() {
        CHECK.edge(8, "the number of the slot, 0 to 4");
        Desk desk = new Desk();
        for (char number = '0'; number <= '4'; number++) {
            CHECK.equal("slot " + number, NONE, desk.faultOf("[" + number + "ns]"));
        }
        for (char sign : new char[] {'0' - 1, '4' + 1, '9', 0, 4, 'n', ']', '[', ' ', '.', '0' + 256}) {
            CHECK.equal("slot with sign " + (int) sign, 1, desk.faultOf("[" + sign + "ns]"));
        }
    }

    private static void slotCases() {
        CHECK.edge(8, "the sign of a case");
        Desk desk = new Desk();
        for (char good : "ngda".toCharArray()) {
            CHECK.equal("case " + good, NONE, desk.faultOf("[0" + good + "s]"));
        }
        for (char sign : new char[] {'b', 'c', 'e', 'f', 'h', 'm', 'o', 's', 'p', 'N', 'A', '0', 0, ']', 'n' + 256}) {
            CHECK.equal("case with sign " + (int) sign, 2, desk.faultOf("[0" + sign + "s]"));
        }
    }

    private static void slotNumbersOfWords() {
        CHECK.edge(8, "that of a number");
        Desk desk = new Desk();
        for (char good : "sp".toCharArray()) {
            CHECK.equal("number " + good, NONE, desk.faultOf("[0n" + good + "]"));
        }
        for (char sign : new char[] {'r', 't', 'o', 'q', 'n', 'a', 'S', 'P', '0', '1', 0, ']', 's' + 256}) {
            CHECK.equal("number with sign " + (int) sign, 3, desk.faultOf("[0n" + sign + "]"));
        }
    }

    private static void slotEnds() {
        CHECK.edge(8, "the sign of a case, that of a number, \"]\"");
        Desk desk = new Desk();
        for (char sign : new char[] {']' - 1, ']' + 1, '[', ' ', '.', 's', 'a', '0', 0, '}', ']' + 256}) {
            CHECK.equal("an end with sign " + (int) sign, 4, desk.faultOf("[0ns" + sign));
        }
        CHECK.equal("an end behind the end", 5, desk.faultOf("[0ns]]"));
        CHECK.equal("a slot behind the end", NONE, desk.faultOf("[0ns][0ns]"));
    }

    private static void endsWithinASlot() {
        CHECK.edge(8, "or its length, if it ends within a slot");
        Desk desk = new Desk();
        String[] begun = {"[", "[4", "[4a", "[4ap"};
        for (String slot : begun) {
            CHECK.equal(slot, slot.length(), desk.faultOf(slot));
            CHECK.equal("a." + slot, 2 + slot.length(), desk.faultOf("a." + slot));
            CHECK.equal("[0ns]" + slot, 5 + slot.length(), desk.faultOf("[0ns]" + slot));
            CHECK.refused("the text " + slot, () -> asText(slot));
        }
    }

    private static Object asText(String text) {
        Desk desk = new Desk();
        desk.g.clause(NONE);
        return desk.text(0, 0, text);
    }

    private static void noMostOfSigns() {
        CHECK.edge(8, "the first sign that cannot stand there in any text, were there no most of signs");
        Desk desk = new Desk();
        String[] begun = {"[", "[0", "[0n", "[0ns"};
        for (String slot : begun) {
            CHECK.equal("sixty signs with " + slot, 60, desk.faultOf(SIXTY.substring(slot.length()) + slot));
        }
        CHECK.equal("a slot up to the last sign", NONE, desk.faultOf(SIXTY.substring(5) + "[0ns]"));
        CHECK.equal("a bad last sign", 59, desk.faultOf(SIXTY.substring(1) + "A"));
        Desk other = new Desk();
        CHECK.equal("a bad end at the last sign", 59, other.faultOf(SIXTY.substring(5) + "[0ns)"));
        CHECK.equal("a bad first sign of sixty", 0, other.faultOf("A" + SIXTY.substring(1)));
    }

    private static void firstOfSeveral() {
        CHECK.edge(8, "The first fault");
        Desk desk = new Desk();
        CHECK.equal("two bad signs", 1, desk.faultOf("aBcD"));
        CHECK.equal("a bad sign and no end", 0, desk.faultOf("B[0n"));
        CHECK.equal("a bad sign in a slot and another", 2, desk.faultOf("[0xB]"));
        CHECK.equal("only bad signs", 0, desk.faultOf("!!!"));
    }

    private static void faultTakesNothing() {
        CHECK.edge(8, "fault leaves the buffer");
        Desk desk = new Desk();
        desk.type("ab");
        desk.g.fault();
        CHECK.equal("of a text", 3, desk.g.type('!'));
        desk.g.fault();
        CHECK.equal("of none", 3, desk.g.clear());
    }
}
