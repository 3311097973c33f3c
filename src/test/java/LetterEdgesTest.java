/** The boundary sentences of promises 12 letter, 13 put, 14 data, 15 fill, 16 price and 17 faultOf. */
public final class LetterEdgesTest {
    private static final Check CHECK = new Check();
    private static final int NONE = Glosstemplate.NONE;

    public static void main(String[] args) {
        sixLetters();
        letterWithoutClauses();
        noSuchLetterOfPut();
        noSuchClauseOfPut();
        ifItHasIt();
        orHasSix();
        returnsHowManyItHas();
        noSuchWordOfData();
        bitsOutOfRange();
        eightData();
        aWordForAllSlots();
        noSuchDataOfFill();
        noSuchSlot();
        noSuchWordOfFill();
        returnsTheWordBefore();
        noSuchLanguageOfPrice();
        priceOutOfRange();
        returnsThePriceBefore();
        noSuchLetterDataOrLanguage();
        countryOutOfRange();
        zeroWithoutAny();
        noText();
        notApproved();
        oneItNeeds();
        oneItBars();
        byItsClauses();
        theFirstOfThese();
        placeAmongAll();
        inTheCountry();
        CHECK.end();
    }

    /** A desk with one word, data 0 without bits and data 1 with all, and approved clauses without conditions. */
    private static Desk approved(int clauses) {
        Desk desk = new Desk();
        desk.word("k");
        desk.g.data(0, 0);
        desk.g.data(0, 255);
        for (int i = 0; i < clauses; i++) {
            desk.g.approve(desk.clause(NONE, "a"), 0);
        }
        return desk;
    }

    private static int approvedWith(Desk desk, int condition) {
        int clause = desk.clause(condition, "c");
        desk.g.approve(clause, 0);
        return clause;
    }

    private static void sixLetters() {
        CHECK.edge(12, "IllegalStateException if there are 6");
        Desk desk = new Desk();
        desk.type("ab");
        for (int i = 0; i < 6; i++) {
            CHECK.equal("letter", i, desk.g.letter());
        }
        CHECK.refused("the seventh", () -> desk.g.letter());
        CHECK.refused("the seventh again", () -> desk.g.letter());
        CHECK.equal("the sixth", NONE, desk.g.sample(5, 0));
        CHECK.outside("there is no seventh", () -> desk.g.sample(6, 0));
        CHECK.equal("the buffer stays", 2, desk.g.clear());
    }

    private static void letterWithoutClauses() {
        CHECK.edge(12, "Makes a letter without clauses");
        Desk desk = approved(1);
        desk.letter(0);
        desk.letter();
        CHECK.equal("faultOf", 0, desk.g.faultOf(1, 1, 0, 0));
        CHECK.equal("sign", 0, desk.g.sign(1, 1, 0, 0));
        CHECK.equal("costs", 0, desk.g.costs(1, 1, 0));
        CHECK.equal("sample", NONE, desk.g.sample(1, 0));
        CHECK.equal("put", 1, desk.g.put(1, 0));
    }

    private static void noSuchLetterOfPut() {
        CHECK.edge(13, "IndexOutOfBoundsException if there is no such letter");
        Desk desk = approved(2);
        CHECK.outside("of no letters", () -> desk.g.put(0, 0));
        desk.letter();
        desk.letter();
        for (int letter : Far.from(2)) {
            CHECK.outside("letter " + letter, () -> desk.g.put(letter, 0));
        }
        CHECK.outside("letter 6", () -> desk.g.put(6, 0));
        CHECK.equal("the last letter", 1, desk.g.put(1, 0));
        CHECK.equal("the first letter", 1, desk.g.put(0, 0));
    }

    private static void noSuchClauseOfPut() {
        CHECK.edge(13, "or clause");
        Desk desk = new Desk();
        desk.letter();
        CHECK.outside("of no clauses", () -> desk.g.put(0, 0));
        desk.g.clause(NONE);
        desk.g.clause(NONE);
        for (int clause : Far.from(2)) {
            CHECK.outside("clause " + clause, () -> desk.g.put(0, clause));
        }
        CHECK.outside("clause 10", () -> desk.g.put(0, 10));
        CHECK.equal("the last clause", 1, desk.g.put(0, 1));
        CHECK.equal("the first clause", 2, desk.g.put(0, 0));
    }

    private static void ifItHasIt() {
        CHECK.edge(13, "IllegalStateException if it has it; each once");
        Desk desk = approved(3);
        desk.letter(2, 0);
        CHECK.refused("the first one", () -> desk.g.put(0, 2));
        CHECK.refused("the last one", () -> desk.g.put(0, 0));
        CHECK.equal("a third one", 3, desk.g.put(0, 1));
        CHECK.refused("the first one of three", () -> desk.g.put(0, 2));
        CHECK.refused("the last one of three", () -> desk.g.put(0, 1));
        desk.letter();
        CHECK.equal("another letter", 1, desk.g.put(1, 2));
        CHECK.same("the letter", "A a a", desk.built(0, 0, 0));
    }

    private static void orHasSix() {
        CHECK.edge(13, "or has 6");
        Desk desk = approved(0);
        String signs = "abcdefgh";
        for (int i = 0; i < 8; i++) {
            desk.clause(NONE, signs.substring(i, i + 1));
        }
        desk.letter(7, 6, 5, 4, 3);
        CHECK.equal("the sixth", 6, desk.g.put(0, 2));
        CHECK.refused("the seventh", () -> desk.g.put(0, 1));
        CHECK.refused("one that it has", () -> desk.g.put(0, 2));
        CHECK.outside("no such clause first", () -> desk.g.put(0, 8));
        CHECK.same("the letter", "H g f e d c", desk.built(0, 0, 0));
        desk.letter();
        CHECK.equal("another letter", 1, desk.g.put(1, 1));
    }

    private static void returnsHowManyItHas() {
        CHECK.edge(13, "Returns how many it has");
        Desk desk = approved(6);
        desk.letter();
        desk.letter();
        for (int i = 0; i < 6; i++) {
            CHECK.equal("letter 0", i + 1, desk.g.put(0, i));
            CHECK.equal("letter 1", i + 1, desk.g.put(1, 5 - i));
        }
    }

    private static void noSuchWordOfData() {
        CHECK.edge(14, "IndexOutOfBoundsException if there is no such word");
        Desk desk = new Desk();
        CHECK.outside("of no words", () -> desk.g.data(0, 0));
        desk.word("k");
        desk.word("l");
        for (int word : Far.from(2)) {
            CHECK.outside("word " + word, () -> desk.g.data(word, 0));
            CHECK.outside("before bits, word " + word, () -> desk.g.data(word, 256));
        }
        CHECK.outside("word 12", () -> desk.g.data(12, 0));
        CHECK.equal("the last word", 0, desk.g.data(1, 0));
        CHECK.equal("the first word", 1, desk.g.data(0, 0));
        CHECK.equal("of the last word", 1, desk.g.fill(0, 0, 0));
    }

    private static void bitsOutOfRange() {
        CHECK.edge(14, "IllegalArgumentException if bits is out of range; 0 to 255");
        Desk desk = new Desk();
        desk.word("k");
        for (int bits : Far.from(256)) {
            CHECK.illegal("bits " + bits, () -> desk.g.data(0, bits));
        }
        CHECK.equal("refused data do not count; bits 0", 0, desk.g.data(0, 0));
        CHECK.equal("bits 255", 1, desk.g.data(0, 255));
    }

    private static void eightData() {
        CHECK.edge(14, "IllegalStateException if there are 8");
        Desk desk = new Desk();
        desk.word("k");
        desk.type("ab");
        for (int i = 0; i < 8; i++) {
            CHECK.equal("data", i, desk.g.data(0, 255));
        }
        CHECK.refused("the ninth", () -> desk.g.data(0, 0));
        CHECK.refused("the ninth again", () -> desk.g.data(0, 255));
        CHECK.illegal("bits first", () -> desk.g.data(0, 256));
        CHECK.illegal("bits first", () -> desk.g.data(0, -1));
        CHECK.outside("the word first", () -> desk.g.data(1, 0));
        CHECK.equal("the eighth", 0, desk.g.fill(7, 0, 0));
        CHECK.outside("there is no ninth", () -> desk.g.fill(8, 0, 0));
        CHECK.equal("the buffer stays", 2, desk.g.clear());
    }

    private static void aWordForAllSlots() {
        CHECK.edge(14, "with a word for all slots; 0 to 4");
        Desk desk = new Desk();
        desk.word("k");
        desk.word("l");
        desk.g.data(1, 0);
        desk.letter(desk.clause(NONE, "[0ns][1ns][2ns][3ns][4ns]"));
        CHECK.same("as it is built", "Lllll", desk.built(0, 0, 0));
    }

    private static void noSuchDataOfFill() {
        CHECK.edge(15, "IndexOutOfBoundsException if there are no such data");
        Desk desk = new Desk();
        desk.word("k");
        desk.word("l");
        CHECK.outside("of no data", () -> desk.g.fill(0, 0, 0));
        desk.g.data(0, 0);
        desk.g.data(0, 0);
        for (int data : Far.from(2)) {
            CHECK.outside("data " + data, () -> desk.g.fill(data, 0, 1));
        }
        CHECK.outside("data 8", () -> desk.g.fill(8, 0, 1));
        CHECK.equal("the first", 0, desk.g.fill(0, 0, 1));
        CHECK.equal("the last", 0, desk.g.fill(1, 0, 1));
    }

    private static void noSuchSlot() {
        CHECK.edge(15, "no such slot; 0 to 4");
        Desk desk = new Desk();
        desk.word("k");
        desk.word("l");
        desk.g.data(0, 0);
        desk.g.data(0, 0);
        for (int slot : Far.from(5)) {
            CHECK.outside("slot " + slot, () -> desk.g.fill(0, slot, 1));
        }
        for (int slot = 0; slot < 5; slot++) {
            CHECK.equal("nothing has changed", 0, desk.g.fill(0, slot, 0));
            CHECK.equal("nor of the next data", 0, desk.g.fill(1, slot, 0));
        }
    }

    private static void noSuchWordOfFill() {
        CHECK.edge(15, "or word");
        Desk desk = new Desk();
        desk.word("k");
        desk.word("l");
        desk.g.data(1, 0);
        for (int word : Far.from(2)) {
            CHECK.outside("word " + word, () -> desk.g.fill(0, 4, word));
        }
        CHECK.outside("word 12", () -> desk.g.fill(0, 4, 12));
        CHECK.equal("nothing has changed; the first word", 1, desk.g.fill(0, 4, 0));
        CHECK.equal("the last word", 0, desk.g.fill(0, 4, 1));
    }

    private static void returnsTheWordBefore() {
        CHECK.edge(15, "Returns the word before");
        Desk desk = new Desk();
        for (int i = 0; i < 12; i++) {
            desk.word("w" + (char) ('a' + i));
        }
        for (int i = 0; i < 8; i++) {
            desk.g.data(i, 0);
        }
        CHECK.equal("of the first data", 0, desk.g.fill(0, 0, 11));
        CHECK.equal("then", 11, desk.g.fill(0, 0, 11));
        CHECK.equal("and then", 11, desk.g.fill(0, 0, 3));
        CHECK.equal("another slot", 0, desk.g.fill(0, 1, 5));
        CHECK.equal("other data", 7, desk.g.fill(7, 4, 2));
        CHECK.equal("the slot before", 7, desk.g.fill(7, 3, 2));
        CHECK.equal("it is filled", 2, desk.g.fill(7, 4, 7));
    }

    private static void noSuchLanguageOfPrice() {
        CHECK.edge(16, "IndexOutOfBoundsException if there is no such language; 0 to 2");
        Glosstemplate g = new Glosstemplate();
        for (int language : Far.from(3)) {
            CHECK.outside("language " + language, () -> g.price(language, 5));
            CHECK.outside("before the price, language " + language, () -> g.price(language, 1001));
        }
        for (int language = 0; language < 3; language++) {
            CHECK.equal("nothing has changed", 1, g.price(language, 5 + language));
        }
        for (int language = 0; language < 3; language++) {
            CHECK.equal("each has its own", 5 + language, g.price(language, 0));
        }
    }

    private static void priceOutOfRange() {
        CHECK.edge(16, "IllegalArgumentException if price is out of range; 0 to 1000");
        Glosstemplate g = new Glosstemplate();
        for (int price : Far.from(1001)) {
            CHECK.illegal("price " + price, () -> g.price(0, price));
        }
        CHECK.equal("nothing has changed", 1, g.price(0, 0));
        CHECK.equal("the least", 0, g.price(0, 1000));
        CHECK.equal("the greatest", 1000, g.price(0, 1));
    }

    private static void returnsThePriceBefore() {
        CHECK.edge(16, "Returns the price before; 1 at first");
        Glosstemplate g = new Glosstemplate();
        CHECK.equal("at first", 1, g.price(2, 7));
        CHECK.equal("then", 7, g.price(2, 7));
        CHECK.equal("and then", 7, g.price(2, 8));
        CHECK.equal("another language", 1, g.price(1, 8));
    }

    private static void noSuchLetterDataOrLanguage() {
        CHECK.edge(17, "IndexOutOfBoundsException if there is no such letter, data or language");
        Desk desk = approved(1);
        CHECK.outside("of no letters", () -> desk.g.faultOf(0, 0, 0, 0));
        desk.letter(0);
        desk.letter(0);
        for (int letter : Far.from(2)) {
            CHECK.outside("letter " + letter, () -> desk.g.faultOf(letter, 0, 0, 0));
            CHECK.outside("before country, letter " + letter, () -> desk.g.faultOf(letter, 0, 0, 4));
        }
        for (int data : Far.from(2)) {
            CHECK.outside("data " + data, () -> desk.g.faultOf(0, data, 0, 0));
            CHECK.outside("before country, data " + data, () -> desk.g.faultOf(0, data, 0, -1));
        }
        for (int language : Far.from(3)) {
            CHECK.outside("language " + language, () -> desk.g.faultOf(0, 0, language, 0));
            CHECK.outside("before country, language " + language, () -> desk.g.faultOf(0, 0, language, 4));
        }
        CHECK.equal("the first of all", 0, desk.g.faultOf(0, 0, 0, 0));
        CHECK.equal("the last of all", 1, desk.g.faultOf(1, 1, 2, 3));
    }

    private static void countryOutOfRange() {
        CHECK.edge(17, "IllegalArgumentException if country is out of range; 0 to 3");
        Desk desk = approved(2);
        desk.letter(0, 1);
        for (int country : Far.from(4)) {
            CHECK.illegal("country " + country, () -> desk.g.faultOf(0, 0, 0, country));
            CHECK.illegal("of a letter with a fault, country " + country, () -> desk.g.faultOf(0, 0, 1, country));
        }
        CHECK.equal("country 0", 0, desk.g.faultOf(0, 0, 0, 0));
        CHECK.equal("country 3", 0, desk.g.faultOf(0, 0, 0, 3));
    }

    private static void zeroWithoutAny() {
        CHECK.edge(17, "0 without any");
        Desk desk = approved(6);
        desk.letter();
        desk.letter(0, 1, 2, 3, 4, 5);
        desk.letter(desk.g.clause(0));
        CHECK.equal("a letter without clauses", 0, desk.g.faultOf(0, 0, 0, 0));
        CHECK.equal("a full letter", 0, desk.g.faultOf(1, 0, 0, 0));
        CHECK.equal("no clause is in it", 0, desk.g.faultOf(2, 0, 0, 0));
        CHECK.equal("one is in it", 1, desk.g.faultOf(2, 1, 0, 0));
    }

    private static void noText() {
        CHECK.edge(17, "1 no text");
        Desk desk = approved(1);
        int none = desk.g.clause(NONE);
        desk.text(none, 1, "b");
        desk.g.approve(none, 1);
        desk.letter(none);
        CHECK.equal("in language 0", 1, desk.g.faultOf(0, 0, 0, 0));
        CHECK.equal("in language 1", 0, desk.g.faultOf(0, 0, 1, 0));
        CHECK.equal("in language 2", 1, desk.g.faultOf(0, 0, 2, 0));
        desk.text(none, 0, "b");
        CHECK.equal("it has one", 2, desk.g.faultOf(0, 0, 0, 0));
    }

    private static void notApproved() {
        CHECK.edge(17, "2 not approved");
        Desk desk = approved(1);
        desk.letter(0);
        CHECK.equal("it is approved", 0, desk.g.faultOf(0, 0, 0, 0));
        desk.text(0, 0, "a");
        CHECK.equal("a same text", 2, desk.g.faultOf(0, 0, 0, 0));
        desk.text(0, 1, "a");
        desk.g.approve(0, 1);
        CHECK.equal("approved in another language", 2, desk.g.faultOf(0, 0, 0, 0));
        CHECK.equal("that language", 0, desk.g.faultOf(0, 0, 1, 0));
        desk.g.approve(0, 0);
        CHECK.equal("it is approved again", 0, desk.g.faultOf(0, 0, 0, 0));
    }

    private static void oneItNeeds() {
        CHECK.edge(17, "3 one that it needs is not in it");
        Desk desk = approved(2);
        int on = approvedWith(desk, 0);
        desk.letter(0);
        desk.g.relate(0, 1, 0, 1);
        CHECK.equal("it is not put", 3, desk.g.faultOf(0, 0, 0, 0));
        desk.g.put(0, 1);
        CHECK.equal("it is put", 0, desk.g.faultOf(0, 0, 0, 0));
        desk.g.relate(0, on, 0, 1);
        desk.g.put(0, on);
        CHECK.equal("one of two is not in it", 3, desk.g.faultOf(0, 0, 0, 0));
        CHECK.equal("both are in it", 0, desk.g.faultOf(0, 1, 0, 0));
        desk.letter(on);
        desk.g.relate(on, 0, 0, 1);
        CHECK.equal("one that is not in it needs none", 0, desk.g.faultOf(1, 0, 0, 0));
        CHECK.equal("one that is in it does", 3, desk.g.faultOf(1, 1, 0, 0));
        desk.letter(0, 1, on);
        desk.text(on, 0, "x");
        CHECK.equal("one that is not approved is in it", 22, desk.g.faultOf(2, 1, 0, 0));
    }

    private static void oneItBars() {
        CHECK.edge(17, "4 one that it bars is in it");
        Desk desk = approved(2);
        int on = approvedWith(desk, 0);
        desk.letter(0);
        desk.g.relate(0, 1, 0, 2);
        CHECK.equal("it is not put", 0, desk.g.faultOf(0, 0, 0, 0));
        desk.g.put(0, 1);
        CHECK.equal("it is put", 4, desk.g.faultOf(0, 0, 0, 0));
        desk.g.relate(0, 1, 0, 0);
        desk.g.relate(0, on, 0, 2);
        desk.g.put(0, on);
        CHECK.equal("it is not in it", 0, desk.g.faultOf(0, 0, 0, 0));
        CHECK.equal("it is in it", 4, desk.g.faultOf(0, 1, 0, 0));
        desk.g.relate(0, on, 0, 0);
        desk.g.relate(on, 0, 0, 2);
        CHECK.equal("one that is not in it bars none", 0, desk.g.faultOf(0, 0, 0, 0));
        CHECK.equal("one that is in it does", 24, desk.g.faultOf(0, 1, 0, 0));
    }

    private static void byItsClauses() {
        CHECK.edge(17, "the first of these, by its clauses");
        Desk desk = approved(3);
        int none = desk.g.clause(NONE);
        desk.letter(2, 1, 0, none);
        CHECK.equal("1 at the last place", 31, desk.g.faultOf(0, 0, 0, 0));
        desk.text(0, 0, "a");
        CHECK.equal("2 before it", 22, desk.g.faultOf(0, 0, 0, 0));
        desk.clause(NONE, "b");
        desk.g.relate(1, 4, 0, 1);
        CHECK.equal("3 before it", 13, desk.g.faultOf(0, 0, 0, 0));
        desk.g.relate(2, none, 0, 2);
        CHECK.equal("4 at the first place", 4, desk.g.faultOf(0, 0, 0, 0));
    }

    private static void theFirstOfThese() {
        CHECK.edge(17, "1 no text, 2 not approved, 3 one that it needs is not in it, 4 one that it bars is in it");
        Desk desk = approved(0);
        for (int i = 0; i < 3; i++) {
            desk.g.clause(NONE);
        }
        desk.letter(0, 1);
        desk.g.relate(0, 1, 0, 2);
        desk.g.relate(0, 2, 0, 1);
        CHECK.equal("all of them", 1, desk.g.faultOf(0, 0, 0, 0));
        desk.text(0, 0, "a");
        CHECK.equal("2, 3 and 4", 2, desk.g.faultOf(0, 0, 0, 0));
        desk.g.approve(0, 0);
        CHECK.equal("3 and 4", 3, desk.g.faultOf(0, 0, 0, 0));
        desk.g.put(0, 2);
        CHECK.equal("4", 4, desk.g.faultOf(0, 0, 0, 0));
        desk.g.relate(0, 1, 0, 0);
        CHECK.equal("the next clause", 11, desk.g.faultOf(0, 0, 0, 0));
    }

    private static void placeAmongAll() {
        CHECK.edge(17, "10 times the place of the clause among all that were put into the letter, from 0");
        Desk desk = approved(0);
        for (int i = 0; i < 6; i++) {
            desk.clause(i == 5 ? 7 : i, "a");
            if (i < 5) {
                desk.g.approve(i, 0);
            }
        }
        desk.g.data(0, 128);
        desk.letter(0, 1, 2, 3, 4, 5);
        CHECK.equal("the last place, behind five that are not in it", 52, desk.g.faultOf(0, 2, 0, 0));
        CHECK.equal("behind five that are", 52, desk.g.faultOf(0, 1, 0, 0));
        CHECK.equal("it is not in it", 0, desk.g.faultOf(0, 0, 0, 0));
        desk.letter(5, 0);
        CHECK.equal("the first place", 2, desk.g.faultOf(1, 2, 0, 0));
    }

    private static void inTheCountry() {
        CHECK.edge(17, "in a country, 0 to 3");
        for (int country = 0; country < 4; country++) {
            Desk desk = approved(3);
            desk.letter(0, 1);
            desk.g.relate(0, 2, country, 1);
            desk.g.relate(1, 0, (country + 1) % 4, 2);
            for (int asked = 0; asked < 4; asked++) {
                int due = asked == country ? 3 : asked == (country + 1) % 4 ? 14 : 0;
                CHECK.equal("country " + asked, due, desk.g.faultOf(0, 0, 0, asked));
            }
        }
    }
}
