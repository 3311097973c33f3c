import java.util.ArrayList;
import java.util.List;

/**
 * "A method that throws an exception changes nothing. If several exceptions apply, the one that is documented
 * first is thrown.": each refused call of each promise, on a desk with some of all and on one that is full. The
 * desk and a twin that was not asked are looked over then, and answer the same.
 */
public final class RefusedEdgesTest {
    private static final Check CHECK = new Check();
    private static final int NONE = Glosstemplate.NONE;
    private static final String OUTSIDE = "IndexOutOfBoundsException";
    private static final String ILLEGAL = "IllegalArgumentException";
    private static final String REFUSED = "IllegalStateException";
    private static final int LOOKS = 5;

    /** A call on a desk. */
    private interface OnDesk {
        Object run(Desk desk);
    }

    public static void main(String[] args) {
        typeAndWord();
        form();
        clause();
        text();
        approve();
        relate();
        isLinked();
        letterAndPut();
        data();
        fillAndPrice();
        faultOf();
        signs();
        costsAndSample();
        CHECK.end();
    }

    private static void typeAndWord() {
        CHECK.edge(2, "A method that throws an exception changes nothing: type");
        onFull("a sign", REFUSED, desk -> desk.g.type('a'));
        CHECK.edge(4, "A method that throws an exception changes nothing: word");
        onSome("no stem", "ab.", REFUSED, desk -> desk.g.word());
        onSome("empty", "", REFUSED, desk -> desk.g.word());
        onSome("eleven letters", "abcdefghijk", REFUSED, desk -> desk.g.word());
        onFull("neither a stem nor room", REFUSED, desk -> desk.g.word());
        onFull("no room", REFUSED, desk -> {
            desk.g.clear();
            return desk.word("ab");
        }, desk -> {
            desk.g.clear();
            desk.type("ab");
        });
    }

    private static void form() {
        CHECK.edge(5, "A method that throws an exception changes nothing, the first exception is thrown: form");
        onBoth("language, grammar, buffer", OUTSIDE, desk -> desk.g.form(3, 0, 8));
        onBoth("word, grammar, buffer", OUTSIDE, desk -> desk.g.form(0, 12, -1));
        onBoth("word below NONE", OUTSIDE, desk -> desk.g.form(0, -2, 0));
        onBoth("grammar, buffer", ILLEGAL, desk -> desk.g.form(0, 0, 8));
        onBoth("grammar of an ending, buffer", ILLEGAL, desk -> desk.g.form(2, NONE, -1));
        onBoth("buffer of an own form", REFUSED, desk -> desk.g.form(0, 0, 0));
        onBoth("buffer of an ending", REFUSED, desk -> desk.g.form(0, NONE, 0));
        onSome("five letters", "abcde", REFUSED, desk -> desk.g.form(0, NONE, 0));
        onSome("eleven letters", "abcdefghijk", REFUSED, desk -> desk.g.form(0, 1, 0));
        onSome("no letters", "", REFUSED, desk -> desk.g.form(0, 1, 0));
    }

    private static void clause() {
        CHECK.edge(6, "A method that throws an exception changes nothing, the first exception is thrown: clause");
        onBoth("condition 8", ILLEGAL, desk -> desk.g.clause(8));
        onBoth("condition -2", ILLEGAL, desk -> desk.g.clause(-2));
        onFull("no room", REFUSED, desk -> desk.g.clause(NONE));
        onFull("no room", REFUSED, desk -> desk.g.clause(7));
    }

    private static void text() {
        CHECK.edge(7, "A method that throws an exception changes nothing, the first exception is thrown: text");
        onBoth("clause, language, buffer", OUTSIDE, desk -> desk.g.text(10, 3));
        onBoth("clause, buffer", OUTSIDE, desk -> desk.g.text(-1, 0));
        onBoth("language, buffer", OUTSIDE, desk -> desk.g.text(0, 3));
        onBoth("language below 0, buffer", OUTSIDE, desk -> desk.g.text(0, -1));
        onBoth("buffer", REFUSED, desk -> desk.g.text(0, 0));
        onSome("an empty buffer", "", REFUSED, desk -> desk.g.text(0, 0));
        onSome("a begun slot", "a[0n", REFUSED, desk -> desk.g.text(0, 1));
    }

    private static void approve() {
        CHECK.edge(9, "A method that throws an exception changes nothing, the first exception is thrown: approve");
        onBoth("clause, language", OUTSIDE, desk -> desk.g.approve(10, 3));
        onBoth("clause", OUTSIDE, desk -> desk.g.approve(-1, 0));
        onBoth("language", OUTSIDE, desk -> desk.g.approve(0, 3));
        onBoth("language, text", OUTSIDE, desk -> desk.g.approve(2, -1));
        onBoth("text", REFUSED, desk -> desk.g.approve(2, 0));
        onBoth("text in a language", REFUSED, desk -> desk.g.approve(0, 2));
    }

    private static void relate() {
        CHECK.edge(10, "A method that throws an exception changes nothing, the first exception is thrown: relate");
        onBoth("clause, country, how", OUTSIDE, desk -> desk.g.relate(10, 0, 4, 3));
        onBoth("other, country, how", OUTSIDE, desk -> desk.g.relate(0, 10, -1, -1));
        onBoth("both, and one", OUTSIDE, desk -> desk.g.relate(-1, -1, 0, 1));
        onBoth("both are one", ILLEGAL, desk -> desk.g.relate(1, 1, 0, 1));
        onBoth("country", ILLEGAL, desk -> desk.g.relate(0, 1, 4, 1));
        onBoth("country below 0", ILLEGAL, desk -> desk.g.relate(0, 1, -1, 1));
        onBoth("how", ILLEGAL, desk -> desk.g.relate(0, 1, 0, 3));
        onBoth("how below 0", ILLEGAL, desk -> desk.g.relate(0, 1, 0, -1));
    }

    private static void isLinked() {
        CHECK.edge(11, "A method that throws an exception changes nothing: isLinked");
        onBoth("clause", OUTSIDE, desk -> desk.g.isLinked(10));
        onBoth("clause below 0", OUTSIDE, desk -> desk.g.isLinked(-1));
    }

    private static void letterAndPut() {
        CHECK.edge(12, "A method that throws an exception changes nothing: letter");
        onFull("no room", REFUSED, desk -> desk.g.letter());
        CHECK.edge(13, "A method that throws an exception changes nothing, the first exception is thrown: put");
        onBoth("letter, clause", OUTSIDE, desk -> desk.g.put(6, 10));
        onBoth("letter", OUTSIDE, desk -> desk.g.put(-1, 0));
        onBoth("clause", OUTSIDE, desk -> desk.g.put(0, 10));
        onBoth("clause below 0", OUTSIDE, desk -> desk.g.put(1, -1));
        onBoth("it has it", REFUSED, desk -> desk.g.put(0, 0));
        onFull("it has 6, and it", REFUSED, desk -> desk.g.put(0, 1));
        onFull("it has 6", REFUSED, desk -> desk.g.put(0, 9));
    }

    private static void data() {
        CHECK.edge(14, "A method that throws an exception changes nothing, the first exception is thrown: data");
        onBoth("word, bits", OUTSIDE, desk -> desk.g.data(12, 256));
        onBoth("word", OUTSIDE, desk -> desk.g.data(NONE, 0));
        onBoth("bits", ILLEGAL, desk -> desk.g.data(0, 256));
        onBoth("bits below 0", ILLEGAL, desk -> desk.g.data(1, -1));
        onFull("no room", REFUSED, desk -> desk.g.data(0, 0));
    }

    private static void fillAndPrice() {
        CHECK.edge(15, "A method that throws an exception changes nothing: fill");
        onBoth("data", OUTSIDE, desk -> desk.g.fill(8, 0, 1));
        onBoth("data below 0", OUTSIDE, desk -> desk.g.fill(-1, 0, 1));
        onBoth("slot", OUTSIDE, desk -> desk.g.fill(0, 5, 1));
        onBoth("slot below 0", OUTSIDE, desk -> desk.g.fill(0, -1, 1));
        onBoth("word", OUTSIDE, desk -> desk.g.fill(0, 0, 12));
        onBoth("word NONE", OUTSIDE, desk -> desk.g.fill(0, 0, NONE));
        CHECK.edge(16, "A method that throws an exception changes nothing, the first exception is thrown: price");
        onBoth("language, price", OUTSIDE, desk -> desk.g.price(3, 1001));
        onBoth("language", OUTSIDE, desk -> desk.g.price(-1, 3));
        onBoth("price", ILLEGAL, desk -> desk.g.price(0, 1001));
        onBoth("price below 0", ILLEGAL, desk -> desk.g.price(2, -1));
    }

    private static void faultOf() {
        CHECK.edge(17, "A method that throws an exception changes nothing, the first exception is thrown: faultOf");
        onBoth("letter, country", OUTSIDE, desk -> desk.g.faultOf(6, 0, 0, 4));
        onBoth("data, country", OUTSIDE, desk -> desk.g.faultOf(0, 8, 0, -1));
        onBoth("language, country", OUTSIDE, desk -> desk.g.faultOf(0, 0, 3, 4));
        onBoth("country", ILLEGAL, desk -> desk.g.faultOf(0, 0, 0, 4));
        onBoth("country below 0", ILLEGAL, desk -> desk.g.faultOf(0, 0, 2, -1));
    }

    private static void signs() {
        CHECK.edge(18, "A method that throws an exception changes nothing: sign");
        onBoth("letter", OUTSIDE, desk -> desk.g.sign(6, 0, 0, 0));
        onBoth("data", OUTSIDE, desk -> desk.g.sign(0, 8, 0, 0));
        onBoth("language", OUTSIDE, desk -> desk.g.sign(0, 0, 3, 0));
        onBoth("place", OUTSIDE, desk -> desk.g.sign(0, 0, 0, -1));
        CHECK.edge(19, "A method that throws an exception changes nothing: signAnew");
        onBoth("letter", OUTSIDE, desk -> desk.g.signAnew(6, 0, 0, 0));
        onBoth("data", OUTSIDE, desk -> desk.g.signAnew(0, 8, 0, 0));
        onBoth("language", OUTSIDE, desk -> desk.g.signAnew(0, 0, 3, 0));
        onBoth("place", OUTSIDE, desk -> desk.g.signAnew(0, 0, 0, -1));
    }

    private static void costsAndSample() {
        CHECK.edge(20, "A method that throws an exception changes nothing: costs");
        onBoth("letter", OUTSIDE, desk -> desk.g.costs(6, 0, 0));
        onBoth("data", OUTSIDE, desk -> desk.g.costs(0, 8, 0));
        onBoth("language", OUTSIDE, desk -> desk.g.costs(0, 0, -1));
        CHECK.edge(21, "A method that throws an exception changes nothing: sample");
        onBoth("letter", OUTSIDE, desk -> desk.g.sample(6, 0));
        onBoth("place", OUTSIDE, desk -> desk.g.sample(0, -1));
    }

    private static void onBoth(String what, String due, OnDesk call) {
        onSome(what, "ab[", due, call);
        onFull(what, due, call);
    }

    private static void onSome(String what, String buffer, String due, OnDesk call) {
        for (int look = 0; look < LOOKS; look++) {
            Desk asked = some();
            Desk twin = some();
            asked.type(buffer);
            twin.type(buffer);
            compare(what + ", on a desk with some", due, call, look, asked, twin);
        }
    }

    private static void onFull(String what, String due, OnDesk call) {
        onFull(what, due, call, desk -> { });
    }

    /** The twin gets what the call does before it is refused. */
    private static void onFull(String what, String due, OnDesk call, java.util.function.Consumer<Desk> ofTwin) {
        for (int look = 0; look < LOOKS; look++) {
            Desk asked = full();
            Desk twin = full();
            ofTwin.accept(twin);
            compare(what + ", on a full desk", due, call, look, asked, twin);
        }
    }

    private static void compare(String what, String due, OnDesk call, int look, Desk asked, Desk twin) {
        CHECK.same(what, due, Check.outcome(() -> call.run(asked)));
        CHECK.same(what + ", look " + look, looked(twin, look).toString(), looked(asked, look).toString());
    }

    /** Some words, clauses, letters and data; clause 2 has no text in languages 0 and 2. */
    private static Desk some() {
        Desk desk = new Desk();
        founded(desk, 2, 3, 2, 2);
        return desk;
    }

    private static Desk full() {
        Desk desk = new Desk();
        founded(desk, 12, 10, 6, 8);
        desk.type("[" + "a".repeat(59));
        return desk;
    }

    private static void founded(Desk desk, int words, int clauses, int letters, int data) {
        for (int word = 0; word < words; word++) {
            desk.word("k" + "aeioulmnrstv".charAt(word));
        }
        desk.ending(0, 0, "en");
        desk.ending(1, 7, "z");
        desk.own(0, 1, 1, "x");
        for (int clause = 0; clause < clauses; clause++) {
            desk.g.clause(clause % 3 == 1 ? clause % 8 : NONE);
            if (clause > 0) {
                desk.g.relate(clause, 0, 0, 2);
            }
        }
        desk.text(0, 0, "[0ns]. b");
        desk.text(1, 0, "c");
        desk.text(0, 1, "[0ap]");
        desk.text(2, 1, "[1gs]");
        desk.g.approve(0, 0);
        desk.g.relate(0, 1, 0, 1);
        desk.g.relate(1, 0, 3, 2);
        for (int letter = 0; letter < letters; letter++) {
            desk.g.letter();
        }
        for (int clause = 0; clause < (clauses == 10 ? 6 : 2); clause++) {
            desk.g.put(0, clause);
        }
        desk.g.put(1, 0);
        for (int each = 0; each < data; each++) {
            desk.g.data(each % 2, each % 2 == 0 ? 2 : 0);
        }
        desk.g.fill(0, 0, 1);
        desk.g.price(0, 9);
    }

    private static List<String> looked(Desk desk, int look) {
        List<String> told = new ArrayList<>();
        switch (look) {
            case 0 -> lookAtLetters(desk, told);
            case 1 -> lookAtFaults(desk, told);
            case 2 -> lookAtClauses(desk, told);
            case 3 -> lookAtRelations(desk, told);
            default -> lookAtNumbers(desk, told);
        }
        return told;
    }

    private static void tell(List<String> told, Check.Call call) {
        told.add(Check.outcome(call));
    }

    private static void lookAtLetters(Desk desk, List<String> told) {
        for (int letter = 0; letter < 2; letter++) {
            for (int data = 0; data < 2; data++) {
                for (int language = 0; language < 2; language++) {
                    told.add(desk.built(letter, data, language));
                    told.add(String.valueOf(desk.g.costs(letter, data, language)));
                }
            }
            told.add(desk.builtAnew(letter, 0, 0));
        }
    }

    private static void lookAtFaults(Desk desk, List<String> told) {
        tell(told, () -> desk.g.fault());
        for (int letter = 0; letter < 2; letter++) {
            for (int data = 0; data < 2; data++) {
                for (int number = 0; number < 12; number++) {
                    int[] asked = {letter, data, number / 4, number % 4};
                    tell(told, () -> desk.g.faultOf(asked[0], asked[1], asked[2], asked[3]));
                }
                int[] asked = {letter, data};
                tell(told, () -> desk.g.sample(asked[0], asked[1]));
            }
        }
        tell(told, () -> desk.g.clear());
    }

    private static void lookAtClauses(Desk desk, List<String> told) {
        for (int clause = 0; clause < 10; clause++) {
            int asked = clause;
            tell(told, () -> desk.g.isLinked(asked));
            for (int language = 0; language < 3; language++) {
                int in = language;
                tell(told, () -> desk.g.approve(asked, in));
            }
        }
    }

    private static void lookAtRelations(Desk desk, List<String> told) {
        for (int number = 0; number < 3 * 10 * 4; number++) {
            int[] asked = {number / 40, number / 4 % 10, number % 4};
            tell(told, () -> desk.g.relate(asked[0], asked[1], asked[2], 0));
        }
    }

    private static void lookAtNumbers(Desk desk, List<String> told) {
        for (int data = 0; data < 8; data++) {
            for (int slot = 0; slot < 5; slot++) {
                int[] asked = {data, slot};
                tell(told, () -> desk.g.fill(asked[0], asked[1], 0));
            }
        }
        for (int language = 0; language < 3; language++) {
            int asked = language;
            tell(told, () -> desk.g.price(asked, 0));
        }
        for (int letter = 0; letter < 6; letter++) {
            int asked = letter;
            tell(told, () -> desk.g.put(asked, 2));
        }
        tell(told, () -> desk.g.letter());
        tell(told, () -> desk.g.clause(NONE));
        tell(told, () -> desk.g.data(0, 0));
        tell(told, () -> desk.g.clear());
        tell(told, () -> {
            desk.type("ab");
            return desk.g.word();
        });
    }
}
