import java.util.Random;

/** Promises 1 to 21: runs of random calls, each compared with the model's answer. The seeds are fixed. */
public final class RandomRunsTest {
    private static final Check CHECK = new Check();
    private static final int RUNS = 3000;
    private static final int CALLS = 512;
    private static final int WRONG_RUNS = 3;
    private static final int[] ODD = {-2, -1, 3, 4, 5, 8, 10, 12, 255, 256, 1001, Integer.MIN_VALUE, Integer.MAX_VALUE};
    private static final String[] PIECES = {
        "a", "o", "ka", "tot", "en", "x.", " ", ".", ". ", "[0ns]", "[1gp]", "[2ds]", "[3ap]", "[4np]", "[0as]",
        "rum e", "[0", "[", "]", "B", "[2dp]", "abcdefghi", "\u00e4", "e", "i",
    };

    private final Random random;
    private final Glosstemplate real = new Glosstemplate();
    private final Model model = new Model();
    private final StringBuilder told = new StringBuilder();
    private int calls = 0;
    private int words = 0;
    private int clauses = 0;
    private int letters = 0;
    private int data = 0;

    private RandomRunsTest(long seed) {
        random = new Random(seed);
        told.append("seed ").append(seed);
    }

    public static void main(String[] args) {
        for (int seed = 0; seed < RUNS && CHECK.wrong() < WRONG_RUNS; seed++) {
            new RandomRunsTest(seed).run(seed % 3);
        }
        CHECK.end();
    }

    private void run(int kind) {
        if (kind != 0) {
            found();
        }
        while (calls < CALLS) {
            if (kind == 1 || random.nextInt(3) == 0) {
                ask();
            } else {
                change();
            }
        }
    }

    /** Compares a call; the calls that changed something are told if the answers differ. */
    private boolean same(String what, Check.Call ofReal, Check.Call ofModel) {
        if (calls >= CALLS) {
            return false;
        }
        calls++;
        String due = Check.outcome(ofModel);
        String got = Check.outcome(ofReal);
        CHECK.same(due.equals(got) ? what : told + " " + what, due, got);
        if (!due.equals(got)) {
            calls = CALLS;
        }
        return Character.isDigit(due.charAt(0)) || due.charAt(0) == '-';
    }

    private boolean changes(String what, Check.Call ofReal, Check.Call ofModel) {
        told.append(' ').append(what);
        return same("(the last one)", ofReal, ofModel);
    }

    /** A number below the bound mostly, and an odd one at times. */
    private int number(int bound) {
        if (bound == 0 || random.nextInt(40) == 0) {
            return ODD[random.nextInt(ODD.length)];
        }
        return random.nextInt(40) == 0 ? bound : random.nextInt(bound);
    }

    /** Some words, clauses with texts, letters and data, so that there is something to ask for. */
    private void found() {
        for (int i = 0; i < 4; i++) {
            word();
            clause();
        }
        for (int i = 0; i < 6; i++) {
            form(random.nextBoolean() ? -1 : number(words));
            text();
        }
        for (int i = 0; i < 3; i++) {
            letter();
            data();
        }
        for (int i = 0; i < 8; i++) {
            put();
        }
    }

    private void type(String signs) {
        for (char sign : signs.toCharArray()) {
            changes("type " + (int) sign, () -> real.type(sign), () -> model.type(sign));
        }
    }

    private String small(int most) {
        StringBuilder small = new StringBuilder();
        int length = random.nextInt(30) == 0 ? most + 1 : random.nextInt(most + 1);
        for (int i = 0; i < length; i++) {
            small.append("aeioukrtsxz".charAt(random.nextInt(11)));
        }
        return random.nextInt(40) == 0 ? small + "." : small.toString();
    }

    private void clearOften() {
        if (random.nextInt(10) != 0) {
            changes("clear", () -> real.clear(), () -> model.clear());
        }
    }

    private void word() {
        clearOften();
        type(small(random.nextInt(4) == 0 ? 10 : 4));
        if (changes("word", () -> real.word(), () -> model.word())) {
            words++;
        }
    }

    private void form(int word) {
        int language = number(3);
        int grammar = number(8);
        clearOften();
        type(small(random.nextInt(8) == 0 ? 10 : 3));
        changes("form " + language + " " + word + " " + grammar,
                () -> real.form(language, word, grammar), () -> model.form(language, word, grammar));
    }

    private void clause() {
        int condition = random.nextBoolean() ? -1 : number(random.nextBoolean() ? 8 : 3);
        if (changes("clause " + condition, () -> real.clause(condition), () -> model.clause(condition))) {
            clauses++;
        }
    }

    private void text() {
        int clause = number(clauses);
        int language = number(3);
        clearOften();
        int pieces = random.nextInt(8) + 1;
        for (int i = 0; i < pieces; i++) {
            boolean good = random.nextInt(12) != 0;
            type(PIECES[random.nextInt(good ? 16 : PIECES.length)]);
        }
        same("fault", () -> real.fault(), () -> model.fault());
        changes("text " + clause + " " + language,
                () -> real.text(clause, language), () -> model.text(clause, language));
    }

    private void letter() {
        if (changes("letter", () -> real.letter(), () -> model.letter())) {
            letters++;
        }
    }

    private void put() {
        int letter = number(letters);
        int clause = number(clauses);
        changes("put " + letter + " " + clause, () -> real.put(letter, clause), () -> model.put(letter, clause));
    }

    private void data() {
        int word = number(words);
        int bits = random.nextInt(20) == 0 ? number(256) : random.nextInt(random.nextBoolean() ? 256 : 8);
        if (changes("data " + word + " " + bits, () -> real.data(word, bits), () -> model.data(word, bits))) {
            data++;
        }
    }

    private void approve() {
        int clause = number(clauses);
        int language = number(3);
        changes("approve " + clause + " " + language,
                () -> real.approve(clause, language), () -> model.approve(clause, language));
    }

    private void relate() {
        int clause = number(clauses);
        int other = number(clauses);
        int country = number(random.nextBoolean() ? 4 : 1);
        int how = number(3);
        changes("relate " + clause + " " + other + " " + country + " " + how,
                () -> real.relate(clause, other, country, how), () -> model.relate(clause, other, country, how));
    }

    private void fill() {
        int given = number(data);
        int slot = number(5);
        int word = number(words);
        changes("fill " + given + " " + slot + " " + word,
                () -> real.fill(given, slot, word), () -> model.fill(given, slot, word));
    }

    private void price() {
        int language = number(3);
        int price = number(1001);
        changes("price " + language + " " + price,
                () -> real.price(language, price), () -> model.price(language, price));
    }

    private void change() {
        switch (random.nextInt(14)) {
            case 0 -> word();
            case 1 -> form(-1);
            case 2 -> form(number(words));
            case 3, 4 -> text();
            case 5 -> clause();
            case 6 -> letter();
            case 7 -> put();
            case 8 -> data();
            case 9, 10 -> approve();
            case 11 -> relate();
            case 12 -> fill();
            default -> price();
        }
    }

    private void ask() {
        int letter = number(letters);
        int given = number(data);
        int language = number(3);
        String named = " " + letter + " " + given + " " + language + " ";
        switch (random.nextInt(12)) {
            case 0, 1, 2 -> {
                int country = number(random.nextBoolean() ? 4 : 1);
                same("faultOf" + named + country, () -> real.faultOf(letter, given, language, country),
                        () -> model.faultOf(letter, given, language, country));
            }
            case 3, 4, 5 -> {
                int place = number(random.nextInt(3) == 0 ? 150 : 30);
                same("sign" + named + place, () -> real.sign(letter, given, language, place),
                        () -> model.sign(letter, given, language, place));
                same("signAnew" + named + place, () -> real.signAnew(letter, given, language, place),
                        () -> model.sign(letter, given, language, place));
            }
            case 6, 7 -> same("costs" + named, () -> real.costs(letter, given, language),
                    () -> model.costs(letter, given, language));
            case 8, 9 -> {
                int place = number(5);
                same("sample " + letter + " " + place, () -> real.sample(letter, place),
                        () -> model.sample(letter, place));
            }
            case 10 -> {
                int clause = number(clauses);
                same("isLinked " + clause, () -> real.isLinked(clause), () -> model.isLinked(clause));
            }
            default -> change();
        }
    }
}
