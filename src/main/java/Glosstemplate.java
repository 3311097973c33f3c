/**
 * A publisher of form letters in three languages: words with endings and forms of their own,
 * clauses with slots, letters of clauses, the data that they are built with, and samples.
 */
public final class Glosstemplate {
    /** There is none. */
    public static final int NONE = -1;

    private static final int LANGUAGES = 3;
    private static final int GRAMMARS = 8;
    private static final int COUNTRIES = 4;
    private static final int SLOTS = 5;
    private static final int CONDITIONS = 8;
    private static final int MOST_BITS = 255;
    private static final int MOST_PRICE = 1000;

    private static final int MOST_SIGNS = 60;
    private static final int MOST_STEM = 10;
    private static final int MOST_OWN = 10;
    private static final int MOST_ENDING = 4;
    private static final int MOST_WORDS = 12;
    private static final int MOST_CLAUSES = 10;
    private static final int MOST_LETTERS = 6;
    private static final int MOST_PUT = 6;
    private static final int MOST_DATA = 8;

    private static final int NEITHER = 0;
    private static final int NEEDS = 1;
    private static final int BARS = 2;

    private static final int NO_TEXT = 1;
    private static final int NOT_APPROVED = 2;
    private static final int NEEDED_MISSING = 3;
    private static final int BARRED_PRESENT = 4;

    /** A slot has five signs: the brackets, its number, a case and a number. */
    private static final int SLOT_SIGNS = 5;
    private static final int MOST_FORM = MOST_STEM + MOST_ENDING;
    // The longest letter is all slots, with a blank between each two clauses.
    private static final int MOST_BUILT = MOST_PUT * (MOST_SIGNS / SLOT_SIGNS * MOST_FORM + 1);

    private final Signs buffer = new Signs(MOST_SIGNS);
    private final Words words = new Words();
    private final Clause[] clauses = new Clause[MOST_CLAUSES];
    private final Letter[] letters = new Letter[MOST_LETTERS];
    private final Data[] allData = new Data[MOST_DATA];
    private final int[] prices = {1, 1, 1};
    private final Page page = new Page();
    private final Seeker seeker = new Seeker();
    private int clauseCount;
    private int letterCount;
    private int dataCount;

    /** No words, no clauses, no letters; an empty buffer. */
    public Glosstemplate() {
    }

    /** Types a sign; returns how many there are. */
    public int type(char sign) throws IllegalStateException {
        if (!buffer.append(sign)) {
            throw new IllegalStateException("the buffer is full");
        }
        return buffer.length();
    }

    /** Empties the buffer; returns how many signs there were. */
    public int clear() {
        int were = buffer.length();
        buffer.empty();
        return were;
    }

    /** Makes a word of the buffer; returns its number. */
    public int word() throws IllegalStateException {
        if (!buffer.isLetters(1, MOST_STEM) || words.count() >= MOST_WORDS) {
            throw new IllegalStateException("no stem, or too many words");
        }
        int number = words.addStem(buffer);
        buffer.empty();
        return number;
    }

    /** Makes the buffer an ending, or the own form of a word; returns how many signs it has. */
    public int form(int language, int word, int grammar)
            throws IndexOutOfBoundsException, IllegalArgumentException, IllegalStateException {
        if (!isLanguage(language) || (word != NONE && !isWord(word))) {
            throw new IndexOutOfBoundsException("no such language or word");
        }
        if (!isBelow(grammar, GRAMMARS)) {
            throw new IllegalArgumentException("no such grammar");
        }
        boolean fits = word == NONE ? buffer.isLetters(0, MOST_ENDING) : buffer.isLetters(1, MOST_OWN);
        if (!fits) {
            throw new IllegalStateException("no ending, or no form");
        }
        if (word == NONE) {
            words.setEnding(language, grammar, buffer);
        } else {
            words.setOwn(language, word, grammar, buffer);
        }
        int length = buffer.length();
        buffer.empty();
        return length;
    }

    /** Makes a clause without texts; returns its number. */
    public int clause(int condition) throws IllegalArgumentException, IllegalStateException {
        if (condition != NONE && !isBelow(condition, CONDITIONS)) {
            throw new IllegalArgumentException("no such condition");
        }
        if (!isBelow(clauseCount, clauses.length)) {
            throw new IllegalStateException("too many clauses");
        }
        clauses[clauseCount] = new Clause(condition);
        clauseCount++;
        return clauseCount - 1;
    }

    /** Makes the buffer the text of a clause; returns how many slots it has. */
    public int text(int clause, int language) throws IndexOutOfBoundsException, IllegalStateException {
        Template template = templateAt(clause, language);
        if (template == null) {
            throw new IndexOutOfBoundsException("no such clause or language");
        }
        if (firstFault(buffer) != NONE) {
            throw new IllegalStateException("the buffer is no text");
        }
        template.take(buffer);
        buffer.empty();
        return template.slotCount();
    }

    /** Returns the first fault of the buffer as a text; NONE if it is one. */
    public int fault() {
        return firstFault(buffer);
    }

    /** Approves a text; returns whether it was not approved. */
    public boolean approve(int clause, int language) throws IndexOutOfBoundsException, IllegalStateException {
        Template template = templateAt(clause, language);
        if (template == null) {
            throw new IndexOutOfBoundsException("no such clause or language");
        }
        if (!template.isThere()) {
            throw new IllegalStateException("no text there");
        }
        boolean wasNot = !template.isApproved();
        template.setApproved();
        return wasNot;
    }

    /** Lets a clause need or bar another one, or not; returns how it was. */
    public int relate(int clause, int other, int country, int how)
            throws IndexOutOfBoundsException, IllegalArgumentException {
        Clause changed = clauseAt(clause);
        if (changed == null || clauseAt(other) == null) {
            throw new IndexOutOfBoundsException("no such clause");
        }
        if (clause == other || !isBelow(country, COUNTRIES) || how < NEITHER || how > BARS) {
            throw new IllegalArgumentException("the same clause, or no such country or how");
        }
        int was = changed.how(other, country);
        changed.setHow(other, country, how);
        return was;
    }

    /** Tells whether a clause is linked. */
    public boolean isLinked(int clause) throws IndexOutOfBoundsException {
        Clause asked = clauseAt(clause);
        if (asked == null) {
            throw new IndexOutOfBoundsException("no such clause");
        }
        return asked.hasSameSlots();
    }

    /** Makes a letter without clauses; returns its number. */
    public int letter() throws IllegalStateException {
        if (!isBelow(letterCount, letters.length)) {
            throw new IllegalStateException("too many letters");
        }
        letters[letterCount] = new Letter();
        letterCount++;
        return letterCount - 1;
    }

    /** Puts a clause at the end of a letter; returns how many it has. */
    public int put(int letter, int clause) throws IndexOutOfBoundsException, IllegalStateException {
        Letter changed = letterAt(letter);
        if (changed == null || clauseAt(clause) == null) {
            throw new IndexOutOfBoundsException("no such letter or clause");
        }
        if (changed.has(clause) || !changed.append(clause)) {
            throw new IllegalStateException("the letter has the clause, or is full");
        }
        return changed.count();
    }

    /** Makes data, with a word for all slots; returns their number. */
    public int data(int word, int bits)
            throws IndexOutOfBoundsException, IllegalArgumentException, IllegalStateException {
        if (!isWord(word)) {
            throw new IndexOutOfBoundsException("no such word");
        }
        if (bits < 0 || bits > MOST_BITS) {
            throw new IllegalArgumentException("bits out of range");
        }
        if (!isBelow(dataCount, allData.length)) {
            throw new IllegalStateException("too many data");
        }
        allData[dataCount] = new Data(word, bits);
        dataCount++;
        return dataCount - 1;
    }

    /** Sets the word of a slot; returns the word before. */
    public int fill(int data, int slot, int word) throws IndexOutOfBoundsException {
        Data changed = dataAt(data);
        if (changed == null || !isBelow(slot, SLOTS) || !isWord(word)) {
            throw new IndexOutOfBoundsException("no such data, slot or word");
        }
        int before = changed.wordOf(slot);
        changed.setWord(slot, word);
        return before;
    }

    /** Sets the price of a language; returns the price before. */
    public int price(int language, int price) throws IndexOutOfBoundsException, IllegalArgumentException {
        if (!isBelow(language, prices.length)) {
            throw new IndexOutOfBoundsException("no such language");
        }
        if (price < 0 || price > MOST_PRICE) {
            throw new IllegalArgumentException("price out of range");
        }
        int before = prices[language];
        prices[language] = price;
        return before;
    }

    /** Returns the fault of a letter; 0 without any. */
    public int faultOf(int letter, int data, int language, int country)
            throws IndexOutOfBoundsException, IllegalArgumentException {
        Letter asked = letterAt(letter);
        Data given = dataAt(data);
        if (asked == null || given == null || !isLanguage(language)) {
            throw new IndexOutOfBoundsException("no such letter, data or language");
        }
        if (!isBelow(country, COUNTRIES)) {
            throw new IllegalArgumentException("no such country");
        }
        for (int place = 0; place < asked.count(); place++) {
            int number = asked.at(place);
            int fault = isIn(asked, given, number) ? faultAt(asked, given, number, language, country) : 0;
            if (fault != 0) {
                return 10 * place + fault;
            }
        }
        return 0;
    }

    /** Returns a sign of a letter as it is built; a 0 behind the last one. */
    public char sign(int letter, int data, int language, int place) throws IndexOutOfBoundsException {
        Letter asked = letterAt(letter);
        Data given = dataAt(data);
        if (asked == null || given == null || !isLanguage(language) || place < 0) {
            throw new IndexOutOfBoundsException("no such letter, data, language or place");
        }
        build(asked, given, language);
        return page.at(place);
    }

    /** Returns the same as sign, found by going over clauses and slots and counting signs. */
    public char signAnew(int letter, int data, int language, int place) throws IndexOutOfBoundsException {
        Letter asked = letterAt(letter);
        Data given = dataAt(data);
        if (asked == null || given == null || !isLanguage(language) || place < 0) {
            throw new IndexOutOfBoundsException("no such letter, data, language or place");
        }
        seeker.start(place);
        seek(asked, given, language);
        return seeker.found();
    }

    /** Returns what a letter costs, as it is built. */
    public int costs(int letter, int data, int language) throws IndexOutOfBoundsException {
        Letter asked = letterAt(letter);
        Data given = dataAt(data);
        if (asked == null || given == null || !isBelow(language, prices.length)) {
            throw new IndexOutOfBoundsException("no such letter, data or language");
        }
        build(asked, given, language);
        return page.countWords() * prices[language];
    }

    /** Returns the number of the data of a sample of a letter; NONE if there are not so many. */
    public int sample(int letter, int place) throws IndexOutOfBoundsException {
        Letter asked = letterAt(letter);
        if (asked == null || place < 0) {
            throw new IndexOutOfBoundsException("no such letter or place");
        }
        int covered = 0;
        for (int chosen = 0; chosen < dataCount; chosen++) {
            int best = mostBranches(asked, covered);
            if (best == NONE || chosen == place) {
                return best;
            }
            covered |= branches(asked, dataAt(best));
        }
        return NONE;
    }

    private static boolean isBelow(int number, int bound) {
        return number >= 0 && number < bound;
    }

    private static boolean isLanguage(int language) {
        return isBelow(language, LANGUAGES);
    }

    private boolean isWord(int word) {
        return isBelow(word, words.count());
    }

    private Clause clauseAt(int number) {
        return isBelow(number, clauseCount) && number < clauses.length ? clauses[number] : null;
    }

    private Letter letterAt(int number) {
        return isBelow(number, letterCount) && number < letters.length ? letters[number] : null;
    }

    private Data dataAt(int number) {
        return isBelow(number, dataCount) && number < allData.length ? allData[number] : null;
    }

    private Template templateAt(int clause, int language) {
        Clause asked = clauseAt(clause);
        return asked == null ? null : asked.templateIn(language);
    }

    private static boolean isSmall(char sign) {
        return sign >= 'a' && sign <= 'z';
    }

    private static boolean isVowel(char sign) {
        return sign == 'a' || sign == 'e' || sign == 'i' || sign == 'o' || sign == 'u';
    }

    private static char capital(char sign) {
        return isSmall(sign) ? (char) (sign - 'a' + 'A') : sign;
    }

    /** Tells whether a sentence still waits for its first letter, behind a sign as it stands in a text. */
    private static boolean isOpenBehind(char sign, boolean open) {
        return sign == '.' || (open && !isSmall(sign));
    }

    private static int caseOf(char sign) {
        return sign == 'n' ? 0 : sign == 'g' ? 1 : sign == 'd' ? 2 : sign == 'a' ? 3 : NONE;
    }

    private static int numberOf(char sign) {
        return sign == 's' ? 0 : sign == 'p' ? 1 : NONE;
    }

    private static int slotOf(char sign) {
        return sign >= '0' && sign < '0' + SLOTS ? sign - '0' : NONE;
    }

    private static int firstFault(Signs signs) {
        int within = 0;
        for (int i = 0; i < signs.length(); i++) {
            if (!canStand(signs.at(i), within)) {
                return i;
            }
            boolean inSlot = within > 0 || signs.at(i) == '[';
            within = inSlot && within < SLOT_SIGNS - 1 ? within + 1 : 0;
        }
        return signs.length() == 0 || within != 0 ? signs.length() : NONE;
    }

    /** Tells whether a sign can stand behind so many signs of a slot; behind 0 it stands outside of one. */
    private static boolean canStand(char sign, int within) {
        switch (within) {
            case 0:
                return isSmall(sign) || sign == ' ' || sign == '.' || sign == '[';
            case 1:
                return slotOf(sign) != NONE;
            case 2:
                return caseOf(sign) != NONE;
            case 3:
                return numberOf(sign) != NONE;
            default:
                return sign == ']';
        }
    }

    private boolean isIn(Letter letter, Data data, int number) {
        Clause asked = clauseAt(number);
        return asked != null && letter.has(number) && data.meets(asked.condition());
    }

    private int faultAt(Letter letter, Data data, int number, int language, int country) {
        Template template = templateAt(number, language);
        if (template == null || !template.isThere()) {
            return NO_TEXT;
        }
        if (!template.isApproved()) {
            return NOT_APPROVED;
        }
        if (isRelated(letter, data, number, country, NEEDS)) {
            return NEEDED_MISSING;
        }
        return isRelated(letter, data, number, country, BARS) ? BARRED_PRESENT : 0;
    }

    /** Tells whether the clause needs one that is not in the letter, or bars one that is. */
    private boolean isRelated(Letter letter, Data data, int number, int country, int how) {
        Clause asked = clauseAt(number);
        for (int other = 0; asked != null && other < clauseCount; other++) {
            if (asked.how(other, country) == how && isIn(letter, data, other) == (how == BARS)) {
                return true;
            }
        }
        return false;
    }

    /** Returns the text that is laid for the clause at a place of a letter; null if there is none. */
    private Template laidAt(Letter letter, int place, Data data, int language) {
        Clause asked = clauseAt(letter.at(place));
        if (asked == null || !data.meets(asked.condition())) {
            return null;
        }
        Template template = asked.templateIn(language);
        return template != null && template.isThere() ? template : null;
    }

    private void build(Letter letter, Data data, int language) {
        page.start();
        for (int place = 0; place < letter.count(); place++) {
            Template template = laidAt(letter, place, data, language);
            if (template != null) {
                if (page.length() > 0) {
                    page.lay(' ');
                }
                layTemplate(template, data, language);
            }
        }
    }

    private void layTemplate(Template template, Data data, int language) {
        for (int i = 0; i < template.length(); i++) {
            if (template.isSlot(i)) {
                layForm(language, data.wordOf(template.slotAt(i)), template.grammarAt(i));
                i += SLOT_SIGNS - 1;
            } else {
                page.lay(template.at(i));
            }
        }
    }

    private void layForm(int language, int word, int grammar) {
        int length = words.formLength(language, word, grammar);
        for (int i = 0; i < length; i++) {
            page.lay(words.formSign(language, word, grammar, i));
        }
    }

    private void seek(Letter letter, Data data, int language) {
        boolean any = false;
        for (int place = 0; place < letter.count() && !seeker.isDone(); place++) {
            Template template = laidAt(letter, place, data, language);
            if (template != null) {
                if (any) {
                    seeker.pass(' ');
                }
                seekTemplate(template, data, language);
                any = true;
            }
        }
    }

    private void seekTemplate(Template template, Data data, int language) {
        for (int i = 0; i < template.length() && !seeker.isDone(); i++) {
            if (template.isSlot(i)) {
                int word = data.wordOf(template.slotAt(i));
                int grammar = template.grammarAt(i);
                char sought = words.formSign(language, word, grammar, seeker.left());
                seeker.passForm(words.formLength(language, word, grammar), sought);
                i += SLOT_SIGNS - 1;
            } else {
                seeker.pass(template.at(i));
            }
        }
    }

    /** Returns the first data with the most branches that are not covered; NONE if none has any. */
    private int mostBranches(Letter letter, int covered) {
        int best = NONE;
        int most = 0;
        for (int number = 0; number < dataCount; number++) {
            int news = Integer.bitCount(branches(letter, dataAt(number)) & ~covered);
            if (news > most) {
                best = number;
                most = news;
            }
        }
        return best;
    }

    /** Returns the branches that data have: two bits for each place of the letter, one for each branch. */
    private int branches(Letter letter, Data data) {
        int had = 0;
        for (int place = 0; data != null && place < letter.count(); place++) {
            Clause asked = clauseAt(letter.at(place));
            if (asked != null && asked.condition() != NONE) {
                had |= 1 << (2 * place + (data.meets(asked.condition()) ? 1 : 0));
            }
        }
        return had;
    }

    /** A row of signs up to a length. */
    private static final class Signs {
        private final char[] signs;
        private int length;

        Signs(int most) {
            signs = new char[most > 0 ? most : 0];
        }

        int length() {
            return length;
        }

        /** Returns a sign; 0 where there is none. */
        char at(int place) {
            return place >= 0 && place < length && place < signs.length ? signs[place] : 0;
        }

        /** Returns whether there was room for the sign. */
        boolean append(char sign) {
            if (length < 0 || length >= signs.length) {
                return false;
            }
            signs[length] = sign;
            length++;
            return true;
        }

        void empty() {
            length = 0;
        }

        void take(Signs other) {
            empty();
            for (int i = 0; i < other.length(); i++) {
                append(other.at(i));
            }
        }

        boolean isLetters(int least, int most) {
            for (int i = 0; i < length; i++) {
                if (!isSmall(at(i))) {
                    return false;
                }
            }
            return length >= least && length <= most;
        }
    }

    /** The stems, the endings of the languages, and the words' own forms. */
    private static final class Words {
        private final Signs[] stems = new Signs[MOST_WORDS];
        private final Signs[] endings = new Signs[LANGUAGES * GRAMMARS];
        private final Signs[] owns = new Signs[MOST_WORDS * LANGUAGES * GRAMMARS];
        private int count;

        Words() {
            for (int i = 0; i < endings.length; i++) {
                endings[i] = new Signs(MOST_ENDING);
            }
        }

        int count() {
            return count;
        }

        int addStem(Signs stem) {
            if (!isBelow(count, stems.length)) {
                return NONE;
            }
            Signs added = new Signs(MOST_STEM);
            added.take(stem);
            stems[count] = added;
            count++;
            return count - 1;
        }

        void setEnding(int language, int grammar, Signs ending) {
            Signs changed = endingAt(language, grammar);
            if (changed != null) {
                changed.take(ending);
            }
        }

        void setOwn(int language, int word, int grammar, Signs own) {
            int index = ownIndex(language, word, grammar);
            if (!isBelow(index, owns.length)) {
                return;
            }
            Signs changed = owns[index];
            if (changed == null) {
                changed = new Signs(MOST_OWN);
                owns[index] = changed;
            }
            changed.take(own);
        }

        int formLength(int language, int word, int grammar) {
            Signs own = ownAt(language, word, grammar);
            if (own != null) {
                return own.length();
            }
            Signs ending = endingAt(language, grammar);
            return keptOfStem(stemAt(word), ending) + (ending == null ? 0 : ending.length());
        }

        /** Returns a sign of a form; 0 behind its last one. */
        char formSign(int language, int word, int grammar, int place) {
            Signs own = ownAt(language, word, grammar);
            if (own != null) {
                return own.at(place);
            }
            Signs stem = stemAt(word);
            Signs ending = endingAt(language, grammar);
            if (stem == null || ending == null) {
                return 0;
            }
            int kept = keptOfStem(stem, ending);
            return place < kept ? stem.at(place) : ending.at(place - kept);
        }

        private static int keptOfStem(Signs stem, Signs ending) {
            if (stem == null || ending == null) {
                return 0;
            }
            int length = stem.length();
            return isVowel(stem.at(length - 1)) && isVowel(ending.at(0)) ? length - 1 : length;
        }

        private Signs stemAt(int word) {
            return isBelow(word, count) && word < stems.length ? stems[word] : null;
        }

        private Signs endingAt(int language, int grammar) {
            int index = language * GRAMMARS + grammar;
            return isBelow(index, endings.length) ? endings[index] : null;
        }

        private Signs ownAt(int language, int word, int grammar) {
            int index = ownIndex(language, word, grammar);
            return isBelow(index, owns.length) ? owns[index] : null;
        }

        private static int ownIndex(int language, int word, int grammar) {
            return (word * LANGUAGES + language) * GRAMMARS + grammar;
        }
    }

    /** The text of a clause in a language; empty while there is none. */
    private static final class Template {
        private final Signs signs = new Signs(MOST_SIGNS);
        private boolean approved;

        boolean isThere() {
            return signs.length() > 0;
        }

        boolean isApproved() {
            return approved;
        }

        void setApproved() {
            approved = true;
        }

        void take(Signs other) {
            signs.take(other);
            approved = false;
        }

        int length() {
            return signs.length();
        }

        char at(int place) {
            return signs.at(place);
        }

        boolean isSlot(int place) {
            return signs.at(place) == '[';
        }

        int slotAt(int place) {
            return slotOf(signs.at(place + 1));
        }

        int grammarAt(int place) {
            return 2 * caseOf(signs.at(place + 2)) + numberOf(signs.at(place + 3));
        }

        int slotCount() {
            int slots = 0;
            for (int i = 0; i < signs.length(); i++) {
                if (isSlot(i)) {
                    slots++;
                }
            }
            return slots;
        }

        int countOfSlot(int slot) {
            int slots = 0;
            for (int i = 0; i < signs.length(); i++) {
                if (isSlot(i) && slotAt(i) == slot) {
                    slots++;
                }
            }
            return slots;
        }
    }

    /** A clause: its condition, its texts, and how it is to others in the countries. */
    private static final class Clause {
        private final int condition;
        private final Template[] templates = new Template[LANGUAGES];
        private final int[] hows = new int[MOST_CLAUSES * COUNTRIES];

        Clause(int condition) {
            this.condition = condition;
            for (int i = 0; i < templates.length; i++) {
                templates[i] = new Template();
            }
        }

        int condition() {
            return condition;
        }

        Template templateIn(int language) {
            return isBelow(language, templates.length) ? templates[language] : null;
        }

        int how(int other, int country) {
            int index = howIndex(other, country);
            return isBelow(index, hows.length) ? hows[index] : NEITHER;
        }

        void setHow(int other, int country, int how) {
            int index = howIndex(other, country);
            if (isBelow(index, hows.length)) {
                hows[index] = how;
            }
        }

        private int howIndex(int other, int country) {
            boolean known = isBelow(other, MOST_CLAUSES) && isBelow(country, COUNTRIES);
            return known ? other * COUNTRIES + country : NONE;
        }

        boolean hasSameSlots() {
            for (int slot = 0; slot < SLOTS; slot++) {
                if (!isSameCount(slot)) {
                    return false;
                }
            }
            return true;
        }

        private boolean isSameCount(int slot) {
            int count = NONE;
            for (int language = 0; language < LANGUAGES; language++) {
                Template template = templateIn(language);
                if (template != null && template.isThere()) {
                    int here = template.countOfSlot(slot);
                    if (count != NONE && count != here) {
                        return false;
                    }
                    count = here;
                }
            }
            return true;
        }
    }

    /** A letter: the numbers of its clauses, in their order. */
    private static final class Letter {
        private final int[] row = new int[MOST_PUT];
        private int count;

        int count() {
            return count;
        }

        int at(int place) {
            return isBelow(place, count) && place < row.length ? row[place] : NONE;
        }

        boolean has(int clause) {
            for (int i = 0; i < count; i++) {
                if (at(i) == clause) {
                    return true;
                }
            }
            return false;
        }

        /** Returns whether there was room for the clause. */
        boolean append(int clause) {
            if (!isBelow(count, row.length)) {
                return false;
            }
            row[count] = clause;
            count++;
            return true;
        }
    }

    /** Data: a word for each slot, and bits. */
    private static final class Data {
        private final int[] slotWords = new int[SLOTS];
        private final int bits;

        Data(int word, int bits) {
            this.bits = bits;
            for (int i = 0; i < slotWords.length; i++) {
                slotWords[i] = word;
            }
        }

        int wordOf(int slot) {
            return isBelow(slot, slotWords.length) ? slotWords[slot] : NONE;
        }

        void setWord(int slot, int word) {
            if (isBelow(slot, slotWords.length)) {
                slotWords[slot] = word;
            }
        }

        boolean meets(int condition) {
            return condition == NONE || (bits >> condition & 1) == 1;
        }
    }

    /** A letter as it is built. */
    private static final class Page {
        private final Signs signs = new Signs(MOST_BUILT);
        private boolean open = true;

        void start() {
            signs.empty();
            open = true;
        }

        void lay(char sign) {
            signs.append(open ? capital(sign) : sign);
            open = isOpenBehind(sign, open);
        }

        int length() {
            return signs.length();
        }

        char at(int place) {
            return signs.at(place);
        }

        int countWords() {
            int counted = 0;
            boolean inWord = false;
            for (int i = 0; i < signs.length(); i++) {
                char sign = signs.at(i);
                boolean letter = sign != ' ' && sign != '.';
                if (letter && !inWord) {
                    counted++;
                }
                inWord = letter;
            }
            return counted;
        }
    }

    /** Looks for a sign of a letter by counting down the signs that are left before it. */
    private static final class Seeker {
        private int left;
        private boolean open;
        private char found;

        void start(int place) {
            left = place;
            open = true;
            found = 0;
        }

        boolean isDone() {
            return left < 0;
        }

        int left() {
            return left;
        }

        char found() {
            return found;
        }

        void pass(char sign) {
            if (left == 0) {
                found = open ? capital(sign) : sign;
            }
            open = isOpenBehind(sign, open);
            left--;
        }

        /** Passes a form, of which a sign is the sought one if the form is long enough. */
        void passForm(int length, char sought) {
            if (left < length) {
                found = open && left == 0 ? capital(sought) : sought;
            }
            open = false;
            left -= length;
        }
    }
}
