/** The boundary sentences of promise 21: sample. */
public final class SampleEdgesTest {
    private static final Check CHECK = new Check();
    private static final int NONE = Glosstemplate.NONE;
    private static final int SAMPLE = 21;

    public static void main(String[] args) {
        noSuchLetter();
        placeBelow0();
        zeroForTheFirst();
        ifThereAreNotSoMany();
        aClauseWithACondition();
        inItOrNot();
        branchesOfEachClause();
        theMostBranches();
        noneChosenBeforeHas();
        theLowestNumber();
        untilNoneHasMore();
        mostSamples();
        conditionsUpTo7();
        branchesWithoutTexts();
        CHECK.end();
    }

    /** A desk with a letter of clauses with conditions, and data with bits. */
    private static Desk desk(int[] conditions, int... bits) {
        Desk desk = new Desk();
        desk.word("k");
        desk.g.letter();
        for (int condition : conditions) {
            desk.g.put(0, desk.g.clause(condition));
        }
        for (int each : bits) {
            desk.g.data(0, each);
        }
        return desk;
    }

    /** Asks for all samples and some behind them. */
    private static void shown(String what, Desk desk, int... due) {
        for (int place = 0; place < 10; place++) {
            CHECK.equal(what + ", place " + place, place < due.length ? due[place] : NONE, desk.g.sample(0, place));
        }
    }

    private static void noSuchLetter() {
        CHECK.edge(SAMPLE, "IndexOutOfBoundsException if there is no such letter");
        CHECK.outside("of no letters", () -> new Glosstemplate().sample(0, 0));
        Desk desk = desk(new int[] {0}, 1);
        desk.letter(0);
        for (int letter : Far.from(2)) {
            CHECK.outside("letter " + letter, () -> desk.g.sample(letter, 0));
        }
        CHECK.outside("letter 6", () -> desk.g.sample(6, 0));
        CHECK.equal("the first letter", 0, desk.g.sample(0, 0));
        CHECK.equal("the last letter", 0, desk.g.sample(1, 0));
    }

    private static void placeBelow0() {
        CHECK.edge(SAMPLE, "or place is below 0");
        Desk desk = desk(new int[] {0}, 1);
        desk.letter();
        CHECK.outside("place -1", () -> desk.g.sample(0, -1));
        for (int place : Far.BELOW) {
            CHECK.outside("place " + place, () -> desk.g.sample(0, place));
            CHECK.outside("of no samples, place " + place, () -> desk.g.sample(1, place));
        }
        CHECK.equal("place 0", 0, desk.g.sample(0, 0));
    }

    private static void zeroForTheFirst() {
        CHECK.edge(SAMPLE, "0 for the first one that is chosen");
        Desk desk = desk(new int[] {0, 1}, 0, 3);
        CHECK.equal("the first one", 0, desk.g.sample(0, 0));
        CHECK.equal("the second one", 1, desk.g.sample(0, 1));
        CHECK.equal("the first one again", 0, desk.g.sample(0, 0));
    }

    private static void ifThereAreNotSoMany() {
        CHECK.edge(SAMPLE, "NONE if there are not so many");
        shown("no data", desk(new int[] {0, 1}));
        shown("no clauses", desk(new int[] {}, 0, 255));
        shown("one sample", desk(new int[] {0}, 1), 0);
        shown("one sample of several data", desk(new int[] {0}, 1, 3, 5, 7, 9, 11, 13, 15), 0);
        Desk desk = desk(new int[] {0}, 1, 0);
        for (int place : Far.ABOVE) {
            CHECK.equal("place " + place, NONE, desk.g.sample(0, place));
        }
        CHECK.equal("one too many", NONE, desk.g.sample(0, 2));
    }

    private static void aClauseWithACondition() {
        CHECK.edge(SAMPLE, "A branch of a letter is a clause with a condition");
        shown("none has one", desk(new int[] {NONE, NONE}, 0, 255));
        shown("the last one has one", desk(new int[] {NONE, NONE, NONE, NONE, NONE, 0}, 0, 2, 1), 0, 2);
        Desk desk = desk(new int[] {0}, 0, 2, 1);
        desk.g.clause(1);
        shown("one that is not in the letter", desk, 0, 2);
    }

    private static void inItOrNot() {
        CHECK.edge(SAMPLE, "that is in it, or one that is not");
        shown("in it alone", desk(new int[] {0}, 1), 0);
        shown("not in it alone", desk(new int[] {0}, 0), 0);
        shown("both", desk(new int[] {0}, 1, 0), 0, 1);
        shown("both, the other way round", desk(new int[] {0}, 0, 1), 0, 1);
    }

    private static void branchesOfEachClause() {
        CHECK.edge(SAMPLE, "a branch is a clause: two with one condition have two each");
        shown("three of bit 0", desk(new int[] {0, 0, 0, 1, 2}, 0, 6, 1), 0, 2, 1);
        shown("one of bit 0", desk(new int[] {0, 1, 2}, 0, 6, 1), 0, 1, 2);
    }

    private static void theMostBranches() {
        CHECK.edge(SAMPLE, "the data that have the most branches");
        // After data 0, which has all that are out, the count of bits that clauses have decides.
        int[] four = {0, 1, 2, 3};
        shown("two before one", desk(four, 0, 1, 6), 0, 2, 1);
        shown("three before two", desk(four, 0, 8 + 4, 7), 0, 2, 1);
        shown("bits that no clause has", desk(four, 0, 16 + 32 + 64 + 1, 6), 0, 2, 1);
    }

    private static void noneChosenBeforeHas() {
        CHECK.edge(SAMPLE, "that none chosen before has");
        int[] four = {0, 1, 2, 3};
        shown("three, of which two are had", desk(four, 0, 3, 7, 8 + 4), 0, 2, 3);
        shown("a same one", desk(four, 5, 5, 10), 0, 2);
        shown("one in two of them", desk(four, 15, 15, 0, 1), 0, 2);
    }

    private static void theLowestNumber() {
        CHECK.edge(SAMPLE, "of several the lowest number");
        shown("the first choice", desk(new int[] {0, 1}, 2, 1, 3, 0), 0, 1);
        shown("the second choice", desk(new int[] {0, 1, 2}, 0, 1, 2, 4), 0, 1, 2, 3);
        shown("the last two", desk(new int[] {0}, 1, 1, 1, 1, 1, 1, 0, 0), 0, 6);
    }

    private static void untilNoneHasMore() {
        CHECK.edge(SAMPLE, "until none has more");
        shown("all are had", desk(new int[] {0, 1}, 0, 3, 1, 2), 0, 1);
        shown("some are never had", desk(new int[] {0, 1, 2}, 0, 1, 1, 1), 0, 1);
        Desk desk = desk(new int[] {0}, 0);
        shown("one", desk, 0);
        desk.g.data(0, 1);
        shown("one more", desk, 0, 1);
        desk.g.put(0, desk.g.clause(1));
        shown("no more by a clause", desk, 0, 1);
        desk.g.data(0, 2);
        shown("one more again", desk, 0, 1, 2);
    }

    private static void mostSamples() {
        CHECK.edge(SAMPLE, "a row of up to 6 clauses; data from 0, at most 8");
        int[] six = {0, 1, 2, 3, 4, 5};
        shown("one branch more each", desk(six, 0, 1, 2, 4, 8, 16, 32, 63), 0, 7);
        shown("seven samples", desk(six, 64, 1, 2, 4, 8, 16, 32), 0, 1, 2, 3, 4, 5, 6);
        shown("seven samples of eight data", desk(six, 64, 128, 1, 2, 4, 8, 16, 32), 0, 2, 3, 4, 5, 6, 7);
        shown("the last two of eight", desk(six, 0, 0, 0, 0, 0, 0, 7, 56), 0, 6, 7);
    }

    private static void conditionsUpTo7() {
        CHECK.edge(SAMPLE, "a condition, a bit 0 to 7; bits 0 to 255");
        for (int bit = 0; bit < 8; bit++) {
            shown("bit " + bit, desk(new int[] {bit}, 255 - (1 << bit), 1 << bit), 0, 1);
            shown("all other bits", desk(new int[] {bit}, 0, 255 - (1 << bit)), 0);
        }
    }

    private static void branchesWithoutTexts() {
        CHECK.edge(SAMPLE, "a clause with a condition, whether or not it has texts");
        Desk desk = desk(new int[] {0, 1}, 0, 1, 2);
        desk.text(0, 0, "a");
        shown("one has a text", desk, 0, 1, 2);
        desk.g.approve(0, 0);
        desk.g.relate(0, 1, 0, 1);
        shown("it needs another one", desk, 0, 1, 2);
    }
}
