/** An object of the class with shortcuts that type a whole text and use it. */
final class Desk {
    final Glosstemplate g = new Glosstemplate();

    void type(String signs) {
        for (int i = 0; i < signs.length(); i++) {
            g.type(signs.charAt(i));
        }
    }

    int word(String stem) {
        type(stem);
        return g.word();
    }

    int ending(int language, int grammar, String ending) {
        type(ending);
        return g.form(language, Glosstemplate.NONE, grammar);
    }

    int own(int language, int word, int grammar, String form) {
        type(form);
        return g.form(language, word, grammar);
    }

    int text(int clause, int language, String text) {
        type(text);
        return g.text(clause, language);
    }

    /** Makes a clause with a text in language 0. */
    int clause(int condition, String text) {
        int clause = g.clause(condition);
        text(clause, 0, text);
        return clause;
    }

    /** Makes a letter of clauses. */
    int letter(int... clauses) {
        int letter = g.letter();
        for (int clause : clauses) {
            g.put(letter, clause);
        }
        return letter;
    }

    /** Returns a whole letter as sign answers it. */
    String built(int letter, int data, int language) {
        StringBuilder built = new StringBuilder();
        for (int place = 0; place < 1200; place++) {
            char sign = g.sign(letter, data, language, place);
            if (sign == 0) {
                break;
            }
            built.append(sign);
        }
        return built.toString();
    }

    /** Returns a whole letter as signAnew answers it. */
    String builtAnew(int letter, int data, int language) {
        StringBuilder built = new StringBuilder();
        for (int place = 0; place < 1200; place++) {
            char sign = g.signAnew(letter, data, language, place);
            if (sign == 0) {
                break;
            }
            built.append(sign);
        }
        return built.toString();
    }

    /** Returns the first fault of a text, and empties the buffer. */
    int faultOf(String text) {
        type(text);
        int fault = g.fault();
        g.clear();
        return fault;
    }
}
