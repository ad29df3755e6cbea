/** Writes what a call answers as a text, and counts the answers that are not due. */
final class Answers {
    interface Call {
        int answer();
    }

    private int right = 0;
    private int wrong = 0;

    static String of(Call call) {
        try {
            return String.valueOf(call.answer());
        } catch (RuntimeException e) {
            // The exact class: one that the machine throws is a class below the document's.
            return "throws." + e.getClass().getSimpleName();
        }
    }

    void due(String what, String want, String got) {
        if (got.equals(want)) {
            right++;
        } else {
            wrong++;
            System.out.println(what + " answered " + got + ", due is " + want);
        }
    }

    void is(String what, int want, Call call) {
        due(what, String.valueOf(want), of(call));
    }

    void isMissing(String what, Call call) {
        due(what, "throws.IndexOutOfBoundsException", of(call));
    }

    void isUnfit(String what, Call call) {
        due(what, "throws.IllegalArgumentException", of(call));
    }

    void isNotNow(String what, Call call) {
        due(what, "throws.IllegalStateException", of(call));
    }

    int wrong() {
        return wrong;
    }

    void close(String name) {
        System.out.println(name + ": " + right + " answers as due, " + wrong + " not");
        if (wrong > 0) {
            System.exit(1);
        }
    }
}
