/** Counts and prints the answers that are not the ones that are due. */
final class Check {
    /** A call of the class under test. */
    interface Call {
        Object run();
    }

    private static final int MOST_PRINTED = 20;

    private int checked = 0;
    private int wrong = 0;
    private int edges = 0;
    private int checkedBefore = 0;
    private String edge = "";

    /** Says of which promise, and of which of its sentences, the next answers are. */
    void edge(int promise, String sentence) {
        endEdge();
        edge = "promise " + promise + ", \"" + sentence + "\": ";
        edges++;
        checkedBefore = checked;
    }

    private void endEdge() {
        if (!edge.isEmpty() && checked == checkedBefore) {
            same("a test that asks nothing", "an answer", "none");
        }
    }

    void equal(String what, long due, long got) {
        same(what, String.valueOf(due), String.valueOf(got));
    }

    void yes(String what, boolean got) {
        equal(what, 1, got ? 1 : 0);
    }

    void no(String what, boolean got) {
        equal(what, 0, got ? 1 : 0);
    }

    void same(String what, String due, String got) {
        checked++;
        if (!due.equals(got)) {
            wrong++;
            if (wrong <= MOST_PRINTED) {
                System.out.println(edge + what + " answered " + got + ", due is " + due);
            }
        }
    }

    int wrong() {
        return wrong;
    }

    /** The very class that is documented is due: a subclass of it would be the machine's own. */
    void fails(String what, Class<? extends RuntimeException> due, Call call) {
        same(what, due.getSimpleName(), outcome(call));
    }

    void outside(String what, Call call) {
        fails(what, IndexOutOfBoundsException.class, call);
    }

    void illegal(String what, Call call) {
        fails(what, IllegalArgumentException.class, call);
    }

    void refused(String what, Call call) {
        fails(what, IllegalStateException.class, call);
    }

    /** Returns the answer as a number, or the name of the exception's class. */
    static String outcome(Call call) {
        try {
            Object answer = call.run();
            if (answer instanceof Boolean) {
                return (Boolean) answer ? "1" : "0";
            }
            if (answer instanceof Character) {
                return String.valueOf((int) (Character) answer);
            }
            return String.valueOf(answer);
        } catch (RuntimeException | StackOverflowError e) {
            return e.getClass().getSimpleName();
        }
    }

    void end() {
        endEdge();
        if (edges > 0) {
            System.out.print(edges + " sentences, ");
        }
        System.out.println(checked + " answers, " + wrong + " of them not as due");
        if (wrong != 0 || checked == 0) {
            System.exit(1);
        }
    }
}
