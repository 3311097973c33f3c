import java.util.ArrayList;
import java.util.HashMap;
import java.util.HashSet;
import java.util.List;
import java.util.Map;
import java.util.Set;
import java.util.regex.Matcher;
import java.util.regex.Pattern;

/** The document once more, written with the Java library's texts, maps and patterns, to compare answers with. */
final class Model {
    private static final Pattern TEXT = Pattern.compile("([a-z .]|\\[[0-4][ngda][sp]\\])+");
    private static final Pattern BEGINNING =
            Pattern.compile("([a-z .]|\\[[0-4][ngda][sp]\\])*(\\[([0-4]([ngda][sp]?)?)?)?");
    private static final Pattern SLOT = Pattern.compile("\\[(.)(.)(.)\\]");
    private static final Pattern FIRST_LETTER = Pattern.compile("(^|\\.)([^a-z.]*)([a-z])");
    private static final Pattern ROW_OF_LETTERS = Pattern.compile("[A-Za-z]+");

    private String buffer = "";
    private final List<String> words = new ArrayList<>();
    private final Map<List<Integer>, String> endings = new HashMap<>();
    private final Map<List<Integer>, String> owns = new HashMap<>();
    private final List<Integer> conditions = new ArrayList<>();
    private final Map<List<Integer>, String> texts = new HashMap<>();
    private final Set<List<Integer>> approved = new HashSet<>();
    private final Map<List<Integer>, Integer> relations = new HashMap<>();
    private final List<List<Integer>> letters = new ArrayList<>();
    private final List<int[]> slotWords = new ArrayList<>();
    private final List<Integer> bits = new ArrayList<>();
    private final int[] prices = {1, 1, 1};

    private static void outsideUnless(boolean there) {
        if (!there) {
            throw new IndexOutOfBoundsException();
        }
    }

    private static void illegalUnless(boolean legal) {
        if (!legal) {
            throw new IllegalArgumentException();
        }
    }

    private static void refusedUnless(boolean possible) {
        if (!possible) {
            throw new IllegalStateException();
        }
    }

    private static boolean of(int number, int count) {
        return 0 <= number && number < count;
    }

    int type(char sign) {
        refusedUnless(buffer.length() < 60);
        buffer += sign;
        return buffer.length();
    }

    int clear() {
        int length = buffer.length();
        buffer = "";
        return length;
    }

    int word() {
        refusedUnless(buffer.matches("[a-z]{1,10}") && words.size() < 12);
        words.add(buffer);
        buffer = "";
        return words.size() - 1;
    }

    int form(int language, int word, int grammar) {
        outsideUnless(of(language, 3) && (word == -1 || of(word, words.size())));
        illegalUnless(of(grammar, 8));
        refusedUnless(buffer.matches(word == -1 ? "[a-z]{0,4}" : "[a-z]{1,10}"));
        if (word == -1) {
            endings.put(List.of(language, grammar), buffer);
        } else {
            owns.put(List.of(language, word, grammar), buffer);
        }
        return clear();
    }

    int clause(int condition) {
        illegalUnless(condition >= -1 && condition <= 7);
        refusedUnless(conditions.size() < 10);
        conditions.add(condition);
        return conditions.size() - 1;
    }

    int text(int clause, int language) {
        outsideUnless(of(clause, conditions.size()) && of(language, 3));
        refusedUnless(TEXT.matcher(buffer).matches());
        texts.put(List.of(clause, language), buffer);
        approved.remove(List.of(clause, language));
        buffer = "";
        return slots(clause, language).size();
    }

    int fault() {
        if (TEXT.matcher(buffer).matches()) {
            return -1;
        }
        for (int i = 0; i < buffer.length(); i++) {
            if (!BEGINNING.matcher(buffer.substring(0, i + 1)).matches()) {
                return i;
            }
        }
        return buffer.length();
    }

    boolean approve(int clause, int language) {
        outsideUnless(of(clause, conditions.size()) && of(language, 3));
        refusedUnless(texts.containsKey(List.of(clause, language)));
        return approved.add(List.of(clause, language));
    }

    int relate(int clause, int other, int country, int how) {
        outsideUnless(of(clause, conditions.size()) && of(other, conditions.size()));
        illegalUnless(clause != other && of(country, 4) && of(how, 3));
        Integer was = relations.put(List.of(clause, other, country), how);
        return was == null ? 0 : was;
    }

    boolean isLinked(int clause) {
        outsideUnless(of(clause, conditions.size()));
        Set<List<Character>> kinds = new HashSet<>();
        for (int language = 0; language < 3; language++) {
            if (texts.containsKey(List.of(clause, language))) {
                kinds.add(slots(clause, language));
            }
        }
        return kinds.size() <= 1;
    }

    private List<Character> slots(int clause, int language) {
        List<Character> slots = new ArrayList<>();
        Matcher slot = SLOT.matcher(texts.get(List.of(clause, language)));
        while (slot.find()) {
            slots.add(slot.group(1).charAt(0));
        }
        slots.sort(null);
        return slots;
    }

    int letter() {
        refusedUnless(letters.size() < 6);
        letters.add(new ArrayList<>());
        return letters.size() - 1;
    }

    int put(int letter, int clause) {
        outsideUnless(of(letter, letters.size()) && of(clause, conditions.size()));
        List<Integer> row = letters.get(letter);
        refusedUnless(!row.contains(clause) && row.size() < 6);
        row.add(clause);
        return row.size();
    }

    int data(int word, int given) {
        outsideUnless(of(word, words.size()));
        illegalUnless(of(given, 256));
        refusedUnless(bits.size() < 8);
        bits.add(given);
        slotWords.add(new int[] {word, word, word, word, word});
        return bits.size() - 1;
    }

    int fill(int data, int slot, int word) {
        outsideUnless(of(data, bits.size()) && of(slot, 5) && of(word, words.size()));
        int before = slotWords.get(data)[slot];
        slotWords.get(data)[slot] = word;
        return before;
    }

    int price(int language, int price) {
        outsideUnless(of(language, 3));
        illegalUnless(of(price, 1001));
        int before = prices[language];
        prices[language] = price;
        return before;
    }

    private boolean meets(int data, int clause) {
        int condition = conditions.get(clause);
        return condition == -1 || (bits.get(data) & (1 << condition)) != 0;
    }

    private List<Integer> present(int letter, int data) {
        List<Integer> present = new ArrayList<>();
        for (int clause : letters.get(letter)) {
            if (meets(data, clause)) {
                present.add(clause);
            }
        }
        return present;
    }

    int faultOf(int letter, int data, int language, int country) {
        outsideUnless(of(letter, letters.size()) && of(data, bits.size()) && of(language, 3));
        illegalUnless(of(country, 4));
        List<Integer> present = present(letter, data);
        for (int clause : present) {
            int fault = 0;
            for (int other = conditions.size() - 1; other >= 0; other--) {
                int how = relations.getOrDefault(List.of(clause, other, country), 0);
                if (how == 1 && !present.contains(other)) {
                    fault = 3;
                } else if (how == 2 && present.contains(other) && fault == 0) {
                    fault = 4;
                }
            }
            if (!texts.containsKey(List.of(clause, language))) {
                fault = 1;
            } else if (!approved.contains(List.of(clause, language))) {
                fault = 2;
            }
            if (fault != 0) {
                return 10 * letters.get(letter).indexOf(clause) + fault;
            }
        }
        return 0;
    }

    private String form(int language, int word, char c, char n) {
        int grammar = 2 * "ngda".indexOf(c) + "sp".indexOf(n);
        String own = owns.get(List.of(language, word, grammar));
        if (own != null) {
            return own;
        }
        String joined = words.get(word) + "|" + endings.getOrDefault(List.of(language, grammar), "");
        return joined.replaceAll("[aeiou]\\|([aeiou])", "|$1").replace("|", "");
    }

    String built(int letter, int data, int language) {
        outsideUnless(of(letter, letters.size()) && of(data, bits.size()) && of(language, 3));
        List<String> laid = new ArrayList<>();
        for (int clause : present(letter, data)) {
            String text = texts.get(List.of(clause, language));
            if (text != null) {
                laid.add(SLOT.matcher(text).replaceAll(slot -> form(language,
                        slotWords.get(data)[slot.group(1).charAt(0) - '0'],
                        slot.group(2).charAt(0), slot.group(3).charAt(0))));
            }
        }
        return FIRST_LETTER.matcher(String.join(" ", laid)).replaceAll(
                first -> first.group(1) + first.group(2) + first.group(3).toUpperCase(java.util.Locale.ROOT));
    }

    char sign(int letter, int data, int language, int place) {
        String built = built(letter, data, language);
        outsideUnless(place >= 0);
        return place < built.length() ? built.charAt(place) : 0;
    }

    int costs(int letter, int data, int language) {
        return (int) ROW_OF_LETTERS.matcher(built(letter, data, language)).results().count() * prices[language];
    }

    private Set<String> branches(int letter, int data) {
        Set<String> branches = new HashSet<>();
        for (int clause : letters.get(letter)) {
            if (conditions.get(clause) != -1) {
                branches.add(clause + (meets(data, clause) ? " in" : " out"));
            }
        }
        return branches;
    }

    int sample(int letter, int place) {
        outsideUnless(of(letter, letters.size()) && place >= 0);
        Set<String> had = new HashSet<>();
        List<Integer> chosen = new ArrayList<>();
        while (true) {
            int best = -1;
            int most = 0;
            for (int data = 0; data < bits.size(); data++) {
                Set<String> news = branches(letter, data);
                news.removeAll(had);
                if (news.size() > most) {
                    best = data;
                    most = news.size();
                }
            }
            if (best == -1) {
                return place < chosen.size() ? chosen.get(place) : -1;
            }
            chosen.add(best);
            had.addAll(branches(letter, best));
        }
    }
}
