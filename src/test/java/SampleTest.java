/** Promise 21: sample. */
public final class SampleTest {
    private static final Check CHECK = new Check();
    private static final int NONE = Glosstemplate.NONE;

    public static void main(String[] args) {
        noBranches();
        mostBranchesFirst();
        lowestNumberFirst();
        newBranchesCount();
        branchesAreByClause();
        eightSamples();
        laterChangesCount();
        sampleIsRefused();
        CHECK.end();
    }

    /** A desk with a letter of clauses with conditions, and data with bits. */
    private static Desk desk(int[] conditions, int... bits) {
        Desk desk = new Desk();
        desk.word("kal");
        desk.g.letter();
        for (int condition : conditions) {
            desk.g.put(0, desk.g.clause(condition));
        }
        for (int each : bits) {
            desk.g.data(0, each);
        }
        return desk;
    }

    private static void shown(String what, Desk desk, int... due) {
        for (int place = 0; place < due.length; place++) {
            CHECK.equal(what + " at " + place, due[place], desk.g.sample(0, place));
        }
        for (int more = due.length; more < due.length + 10; more++) {
            CHECK.equal(what + " at " + more, NONE, desk.g.sample(0, more));
        }
        CHECK.equal(what + " far off", NONE, desk.g.sample(0, Integer.MAX_VALUE));
    }

    private static void noBranches() {
        shown("an empty letter", desk(new int[] {}, 0, 255));
        shown("no conditions", desk(new int[] {NONE, NONE}, 0, 255));
        shown("no data", desk(new int[] {0, 1}));
    }

    private static void mostBranchesFirst() {
        shown("one clause", desk(new int[] {0}, 1), 0);
        shown("either branch", desk(new int[] {0}, 1, 0), 0, 1);
        shown("the same branch", desk(new int[] {0}, 0, 2, 4, 254), 0);
    }

    private static void lowestNumberFirst() {
        shown("the last one has all others", desk(new int[] {0, 1}, 0, 1, 2, 3), 0, 3);
        shown("none has all others", desk(new int[] {0, 1}, 0, 2, 1), 0, 1, 2);
        shown("the first of two", desk(new int[] {0, 1, 2}, 0, 1, 6, 5, 3), 0, 2, 1);
    }

    private static void newBranchesCount() {
        shown("three of three, two, one", desk(new int[] {0, 1, 2, 3}, 0, 1, 3, 7), 0, 3, NONE);
        shown("greedy", desk(new int[] {0, 1, 2, 3}, 3, 1, 12, 8), 0, 2);
        shown("greedy too", desk(new int[] {5, 6, 7}, 32, 64, 32 + 64), 0, 1);
        shown("clauses without conditions have no branches", desk(new int[] {NONE, 3, NONE}, 1, 8, 9), 0, 1);
    }

    private static void branchesAreByClause() {
        // Two clauses with bit 0 weigh as much as two with bits of their own.
        shown("same conditions", desk(new int[] {0, 0, 0, 1, 2}, 0, 6, 1), 0, 2, 1);
        Desk desk = desk(new int[] {0}, 0, 2, 1);
        desk.g.clause(1);
        shown("a clause that is not in the letter", desk, 0, 2);
        desk.g.letter();
        desk.g.put(1, 1);
        CHECK.equal("another letter", 0, desk.g.sample(1, 0));
        CHECK.equal("another letter", 1, desk.g.sample(1, 1));
        CHECK.equal("another letter", NONE, desk.g.sample(1, 2));
    }

    private static void eightSamples() {
        int[] six = {0, 1, 2, 3, 4, 5};
        shown("one bit each", desk(six, 0, 1, 2, 4, 8, 16, 32), 0, 1, 2, 3, 4, 5, 6);
        shown("one bit each, and none last", desk(six, 1, 2, 4, 8, 16, 32, 0, 64), 0, 1, 2, 3, 4, 5);
        shown("bit 7", desk(new int[] {7}, 127, 128), 0, 1);
    }

    private static void laterChangesCount() {
        Desk desk = desk(new int[] {0}, 0, 3);
        shown("one clause", desk, 0, 1);
        desk.g.data(0, 2);
        shown("data without a branch more", desk, 0, 1);
        desk.g.put(0, desk.g.clause(1));
        shown("two clauses", desk, 0, 1);
        desk.g.put(0, desk.g.clause(4));
        desk.g.data(0, 16 + 1);
        shown("three clauses", desk, 0, 1, 3);
        desk.type("ab");
        shown("a sample leaves all as it is", desk, 0, 1, 3);
        CHECK.equal("the buffer too", 2, desk.g.clear());
    }

    private static void sampleIsRefused() {
        Desk desk = desk(new int[] {0}, 1);
        for (int none : new int[] {-1, 1, 6, Integer.MIN_VALUE, Integer.MAX_VALUE}) {
            CHECK.outside("letter " + none, () -> desk.g.sample(none, 0));
        }
        for (int below : new int[] {-1, -2, Integer.MIN_VALUE}) {
            CHECK.outside("place " + below, () -> desk.g.sample(0, below));
        }
        CHECK.equal("it is there", 0, desk.g.sample(0, 0));
    }
}
