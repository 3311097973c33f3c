/** Promises 12 to 17: letter, put, data, fill, price, faultOf. */
public final class LetterTest {
    private static final Check CHECK = new Check();
    private static final int NONE = Glosstemplate.NONE;
    private static final int[] NEVER = {Integer.MIN_VALUE, -2, -1, 12, Integer.MAX_VALUE};

    public static void main(String[] args) {
        letterNumbers();
        putCounts();
        putIsRefused();
        dataNumbers();
        dataIsRefused();
        fillTellsTheWordBefore();
        fillIsRefused();
        priceTellsThePriceBefore();
        priceIsRefused();
        faultsOfTexts();
        faultsOfNeeds();
        faultsOfBars();
        faultsInOrder();
        faultsByConditions();
        faultsByCountryAndLanguage();
        faultOfIsRefused();
        CHECK.end();
    }

    private static void letterNumbers() {
        Desk desk = new Desk();
        desk.type("ab");
        for (int i = 0; i < 6; i++) {
            CHECK.equal("letter", i, desk.g.letter());
        }
        CHECK.refused("the seventh letter", () -> desk.g.letter());
        CHECK.equal("a letter leaves the buffer", 2, desk.g.clear());
        CHECK.equal("the last letter", NONE, desk.g.sample(5, 0));
        CHECK.outside("no letter", () -> desk.g.sample(6, 0));
    }

    private static void putCounts() {
        Desk desk = new Desk();
        desk.word("w");
        desk.g.data(0, 0);
        String[] texts = {"a", "b", "c", "d", "e", "f", "g"};
        for (String text : texts) {
            desk.clause(NONE, text);
        }
        desk.g.letter();
        desk.g.letter();
        int[] order = {6, 0, 3, 1, 5, 2};
        for (int i = 0; i < order.length; i++) {
            CHECK.equal("put", i + 1, desk.g.put(0, order[i]));
        }
        CHECK.same("in their order", "G a d b f c", desk.built(0, 0, 0));
        CHECK.refused("a seventh clause", () -> desk.g.put(0, 4));
        CHECK.same("a refused clause is not there", "G a d b f c", desk.built(0, 0, 0));
        CHECK.equal("another letter", 1, desk.g.put(1, 4));
        CHECK.equal("a clause of the first letter", 2, desk.g.put(1, 6));
        CHECK.same("the other letter", "E g", desk.built(1, 0, 0));
    }

    private static void putIsRefused() {
        Desk desk = new Desk();
        desk.g.clause(NONE);
        desk.g.clause(NONE);
        desk.g.letter();
        for (int none : NEVER) {
            CHECK.outside("letter " + none, () -> desk.g.put(none, 0));
            CHECK.outside("clause " + none, () -> desk.g.put(0, none));
        }
        CHECK.outside("letter 1", () -> desk.g.put(1, 0));
        CHECK.outside("clause 2", () -> desk.g.put(0, 2));
        desk.g.put(0, 0);
        CHECK.refused("each once", () -> desk.g.put(0, 0));
        CHECK.equal("a refused clause does not count", 2, desk.g.put(0, 1));
        CHECK.refused("the first one still", () -> desk.g.put(0, 0));
        CHECK.refused("the last one", () -> desk.g.put(0, 1));
    }

    private static void dataNumbers() {
        Desk desk = new Desk();
        desk.word("kal");
        desk.word("tot");
        desk.type("ab");
        for (int i = 0; i < 8; i++) {
            CHECK.equal("data", i, desk.g.data(i % 2, i == 7 ? 255 : i));
        }
        CHECK.equal("data leave the buffer", 2, desk.g.clear());
        CHECK.refused("the ninth data", () -> desk.g.data(0, 0));
        CHECK.illegal("bits come first", () -> desk.g.data(0, 256));
        CHECK.outside("the word comes first", () -> desk.g.data(2, 256));
        for (int data = 0; data < 8; data++) {
            for (int slot = 0; slot < 5; slot++) {
                CHECK.equal("a word for all slots", data % 2, desk.g.fill(data, slot, 0));
            }
        }
        CHECK.outside("no data", () -> desk.g.fill(8, 0, 0));
    }

    private static void dataIsRefused() {
        Desk desk = new Desk();
        CHECK.outside("no words", () -> desk.g.data(0, 0));
        desk.word("kal");
        for (int none : NEVER) {
            CHECK.outside("word " + none, () -> desk.g.data(none, 300));
        }
        CHECK.outside("word 1", () -> desk.g.data(1, 0));
        for (int bits : new int[] {-1, 256, Integer.MIN_VALUE, Integer.MAX_VALUE}) {
            CHECK.illegal("bits " + bits, () -> desk.g.data(0, bits));
        }
        CHECK.equal("refused data do not count", 0, desk.g.data(0, 255));
        CHECK.equal("no bits", 1, desk.g.data(0, 0));
    }

    private static void fillTellsTheWordBefore() {
        Desk desk = new Desk();
        desk.word("kal");
        desk.word("tot");
        desk.word("rum");
        desk.g.data(1, 0);
        desk.g.data(1, 0);
        CHECK.equal("the word of the data", 1, desk.g.fill(0, 4, 2));
        CHECK.equal("the word before", 2, desk.g.fill(0, 4, 0));
        CHECK.equal("the word before", 0, desk.g.fill(0, 4, 0));
        CHECK.equal("another slot", 1, desk.g.fill(0, 3, 2));
        CHECK.equal("other data", 1, desk.g.fill(1, 4, 1));
        desk.letter(desk.clause(NONE, "[0ns] [1ns] [2ns] [3ns] [4ns]"));
        CHECK.same("as it is built", "Tot tot tot rum kal", desk.built(0, 0, 0));
        CHECK.same("as it is built", "Tot tot tot tot tot", desk.built(0, 1, 0));
        desk.g.fill(1, 0, 2);
        CHECK.same("as it is built", "Rum tot tot tot tot", desk.built(0, 1, 0));
    }

    private static void fillIsRefused() {
        Desk desk = new Desk();
        desk.word("kal");
        CHECK.outside("no data", () -> desk.g.fill(0, 0, 0));
        desk.g.data(0, 0);
        for (int none : NEVER) {
            CHECK.outside("data " + none, () -> desk.g.fill(none, 0, 0));
            CHECK.outside("slot " + none, () -> desk.g.fill(0, none, 0));
            CHECK.outside("word " + none, () -> desk.g.fill(0, 0, none));
        }
        CHECK.outside("data 1", () -> desk.g.fill(1, 0, 0));
        CHECK.outside("slot 5", () -> desk.g.fill(0, 5, 0));
        CHECK.outside("word 1", () -> desk.g.fill(0, 0, 1));
        CHECK.equal("nothing has changed", 0, desk.g.fill(0, 0, 0));
    }

    private static void priceTellsThePriceBefore() {
        Glosstemplate g = new Glosstemplate();
        CHECK.equal("at first", 1, g.price(0, 1000));
        CHECK.equal("then", 1000, g.price(0, 0));
        CHECK.equal("then", 0, g.price(0, 7));
        CHECK.equal("language 1", 1, g.price(1, 5));
        CHECK.equal("language 2", 1, g.price(2, 6));
        CHECK.equal("language 0 still", 7, g.price(0, 7));
        CHECK.equal("language 1 then", 5, g.price(1, 5));
    }

    private static void priceIsRefused() {
        Glosstemplate g = new Glosstemplate();
        for (int none : new int[] {-1, 3, Integer.MIN_VALUE, Integer.MAX_VALUE}) {
            CHECK.outside("language " + none, () -> g.price(none, 1001));
            CHECK.outside("language " + none, () -> g.price(none, 5));
        }
        for (int bad : new int[] {-1, 1001, Integer.MIN_VALUE, Integer.MAX_VALUE}) {
            CHECK.illegal("price " + bad, () -> g.price(2, bad));
        }
        CHECK.equal("nothing has changed", 1, g.price(2, 1));
    }

    /** A desk with one word, data 0 without bits and data 1 with all, and approved clauses without conditions. */
    private static Desk approved(int clauses) {
        Desk desk = new Desk();
        desk.word("kal");
        desk.g.data(0, 0);
        desk.g.data(0, 255);
        for (int i = 0; i < clauses; i++) {
            desk.g.approve(desk.clause(NONE, "a"), 0);
        }
        return desk;
    }

    private static void faultsOfTexts() {
        Desk desk = approved(2);
        desk.letter();
        CHECK.equal("an empty letter", 0, desk.g.faultOf(0, 0, 0, 0));
        desk.letter(1, 0);
        CHECK.equal("all is approved", 0, desk.g.faultOf(1, 0, 0, 3));
        desk.text(0, 0, "a");
        CHECK.equal("a changed text", 12, desk.g.faultOf(1, 0, 0, 0));
        desk.text(1, 0, "a");
        CHECK.equal("the first one", 2, desk.g.faultOf(1, 0, 0, 0));
        desk.g.put(0, desk.g.clause(NONE));
        CHECK.equal("no text", 1, desk.g.faultOf(0, 0, 0, 0));
        desk.text(2, 0, "b");
        CHECK.equal("a new text", 2, desk.g.faultOf(0, 0, 0, 0));
        desk.g.approve(2, 0);
        CHECK.equal("it is approved", 0, desk.g.faultOf(0, 0, 0, 0));
    }

    private static void faultsOfNeeds() {
        Desk desk = approved(4);
        desk.letter(0, 1, 2);
        desk.g.relate(2, 3, 1, 1);
        CHECK.equal("it needs one that is not put", 23, desk.g.faultOf(0, 0, 0, 1));
        desk.g.put(0, 3);
        CHECK.equal("it is put behind", 0, desk.g.faultOf(0, 0, 0, 1));
        desk.g.relate(2, 0, 1, 1);
        CHECK.equal("another one before", 0, desk.g.faultOf(0, 0, 0, 1));
        desk.letter(1, 3);
        desk.g.relate(3, 1, 1, 1);
        CHECK.equal("needs of one that is not put do not count", 0, desk.g.faultOf(1, 0, 0, 1));
        desk.g.relate(1, 2, 1, 1);
        CHECK.equal("but those of one that is", 3, desk.g.faultOf(1, 0, 0, 1));
        desk.g.relate(1, 2, 1, 0);
        CHECK.equal("it needs it no more", 0, desk.g.faultOf(1, 0, 0, 1));
    }

    private static void faultsOfBars() {
        Desk desk = approved(4);
        desk.letter(0, 1, 2);
        desk.g.relate(1, 2, 2, 2);
        CHECK.equal("one behind", 14, desk.g.faultOf(0, 0, 0, 2));
        desk.g.relate(1, 2, 2, 0);
        desk.g.relate(1, 0, 2, 2);
        CHECK.equal("one before", 14, desk.g.faultOf(0, 0, 0, 2));
        desk.g.relate(1, 0, 2, 0);
        desk.g.relate(1, 3, 2, 2);
        CHECK.equal("one that is not put", 0, desk.g.faultOf(0, 0, 0, 2));
        desk.g.relate(3, 0, 2, 2);
        CHECK.equal("bars of one that is not put do not count", 0, desk.g.faultOf(0, 0, 0, 2));
        desk.g.put(0, 3);
        CHECK.equal("it is put", 14, desk.g.faultOf(0, 0, 0, 2));
        desk.g.relate(1, 3, 2, 0);
        CHECK.equal("it bars one itself", 34, desk.g.faultOf(0, 0, 0, 2));
    }

    private static void faultsInOrder() {
        Desk desk = approved(5);
        desk.letter(0, 1, 2);
        desk.g.relate(1, 2, 0, 2);
        desk.g.relate(1, 4, 0, 1);
        CHECK.equal("a need before a bar", 13, desk.g.faultOf(0, 0, 0, 0));
        desk.text(1, 0, "b");
        CHECK.equal("an approval before a need", 12, desk.g.faultOf(0, 0, 0, 0));
        desk.g.relate(0, 1, 0, 2);
        CHECK.equal("an earlier clause first", 4, desk.g.faultOf(0, 0, 0, 0));
        int last = desk.g.clause(NONE);
        desk.g.put(0, last);
        CHECK.equal("a later clause last", 4, desk.g.faultOf(0, 0, 0, 0));
        desk.g.relate(0, 1, 0, 0);
        desk.g.relate(1, 2, 0, 0);
        desk.g.relate(1, 4, 0, 0);
        desk.g.approve(1, 0);
        CHECK.equal("the last clause", 31, desk.g.faultOf(0, 0, 0, 0));
        desk.g.relate(2, last, 0, 1);
        CHECK.equal("one without a text is in it", 31, desk.g.faultOf(0, 0, 0, 0));
        desk.g.relate(2, last, 0, 2);
        CHECK.equal("and is barred", 24, desk.g.faultOf(0, 0, 0, 0));
        desk.g.relate(last, 0, 0, 2);
        desk.g.relate(2, last, 0, 0);
        CHECK.equal("no text before all", 31, desk.g.faultOf(0, 0, 0, 0));
    }

    private static void faultsByConditions() {
        Desk desk = approved(2);
        int on = desk.g.clause(5);
        desk.letter(on, 0, 1);
        CHECK.equal("it is not in it", 0, desk.g.faultOf(0, 0, 0, 0));
        CHECK.equal("it is in it", 1, desk.g.faultOf(0, 1, 0, 0));
        desk.text(on, 0, "c");
        desk.g.approve(on, 0);
        desk.g.relate(1, on, 0, 1);
        CHECK.equal("a needed one is not in it; places count all", 23, desk.g.faultOf(0, 0, 0, 0));
        CHECK.equal("a needed one is in it", 0, desk.g.faultOf(0, 1, 0, 0));
        desk.g.relate(1, on, 0, 2);
        CHECK.equal("a barred one is not in it", 0, desk.g.faultOf(0, 0, 0, 0));
        CHECK.equal("a barred one is in it", 24, desk.g.faultOf(0, 1, 0, 0));
        desk.g.relate(1, on, 0, 0);
        desk.g.relate(on, 1, 0, 2);
        CHECK.equal("it bars only when it is in it", 0, desk.g.faultOf(0, 0, 0, 0));
        CHECK.equal("and it is", 4, desk.g.faultOf(0, 1, 0, 0));
        desk.g.data(0, 255 - 32);
        desk.g.data(0, 32);
        CHECK.equal("all bits but its own", 0, desk.g.faultOf(0, 2, 0, 0));
        CHECK.equal("its own bit alone", 4, desk.g.faultOf(0, 3, 0, 0));
    }

    private static void faultsByCountryAndLanguage() {
        Desk desk = approved(3);
        desk.letter(0, 1);
        for (int country = 0; country < 4; country++) {
            desk.g.relate(0, 2, country, 1);
            for (int asked = 0; asked < 4; asked++) {
                CHECK.equal("by country", asked == country ? 3 : 0, desk.g.faultOf(0, 0, 0, asked));
            }
            desk.g.relate(0, 2, country, 0);
        }
        desk.text(0, 2, "b");
        CHECK.equal("language 1", 1, desk.g.faultOf(0, 0, 1, 0));
        CHECK.equal("language 2", 2, desk.g.faultOf(0, 0, 2, 0));
        desk.g.approve(0, 2);
        CHECK.equal("language 2", 11, desk.g.faultOf(0, 0, 2, 0));
        CHECK.equal("language 0", 0, desk.g.faultOf(0, 0, 0, 0));
    }

    private static void faultOfIsRefused() {
        Desk desk = approved(1);
        CHECK.outside("no letters", () -> desk.g.faultOf(0, 0, 0, 0));
        desk.letter(0);
        for (int none : NEVER) {
            CHECK.outside("letter " + none, () -> desk.g.faultOf(none, 0, 0, 9));
            CHECK.outside("data " + none, () -> desk.g.faultOf(0, none, 0, 9));
            CHECK.outside("language " + none, () -> desk.g.faultOf(0, 0, none, 9));
            CHECK.illegal("country " + none, () -> desk.g.faultOf(0, 0, 0, none));
        }
        CHECK.outside("letter 1", () -> desk.g.faultOf(1, 0, 0, 0));
        CHECK.outside("data 2", () -> desk.g.faultOf(0, 2, 0, 0));
        CHECK.outside("language 3", () -> desk.g.faultOf(0, 0, 3, 0));
        CHECK.illegal("country 4", () -> desk.g.faultOf(0, 0, 0, 4));
        CHECK.equal("country 3", 0, desk.g.faultOf(0, 0, 0, 3));
    }
}
