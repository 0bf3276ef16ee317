/** Counts what is not as it is due, and prints it. */
final class Check {
    static final String INDEX = "IndexOutOfBoundsException";
    static final String ARGUMENT = "IllegalArgumentException";
    static final String STATE = "IllegalStateException";

    interface Call {
        int answer();
    }

    private int wrong;
    private int right;
    private String sentence = "";

    /** The answer of a call as a text, or the name of the very class that it throws. */
    static String told(Call call) {
        try {
            return Integer.toString(call.answer());
        } catch (RuntimeException e) {
            return e.getClass().getSimpleName();
        }
    }

    /** The sentence of the document that what follows is about. */
    void sentence(String words) {
        sentence = "\"" + words + "\": ";
    }

    void due(String what, long want, Call call) {
        same(what, Long.toString(want), told(call));
    }

    void thrown(String what, String exception, Call call) {
        same(what, exception, told(call));
    }

    void same(String what, String want, String got) {
        if (want.equals(got)) {
            right++;
        } else {
            wrong++;
            if (wrong <= 50) {
                System.out.println(sentence + what + " answered " + got + ", due is " + want);
            }
        }
    }

    void holds(String what, boolean so) {
        same(what, "true", Boolean.toString(so));
    }

    void end(String name) {
        System.out.println(name + ": " + right + " answers as due, " + wrong + " not");
        if (wrong != 0 || right == 0) {
            System.exit(1);
        }
    }
}
