/** Counts answers and prints those that are not the due ones. */
final class Check {
    interface Call {
        Object answer();
    }

    private int right = 0;
    private int wrong = 0;

    /** What a call answers, or "throws " and the exact exception; what the machine throws has a text of its own. */
    static String said(Call call) {
        try {
            return String.valueOf(call.answer());
        } catch (RuntimeException thrown) {
            String text = thrown.getMessage() == null ? "" : " of the machine: " + thrown.getMessage();
            return "throws " + thrown.getClass().getSimpleName() + text;
        }
    }

    void due(String what, Object want, Call call) {
        String got = said(call);
        if (got.equals(String.valueOf(want))) {
            right++;
        } else {
            wrong++;
            System.out.println(what + " answered " + got + ", due is " + want);
        }
    }

    void dueIllegal(String what, Call call) {
        due(what, "throws IllegalArgumentException", call);
    }

    void dueFull(String what, Call call) {
        due(what, "throws IllegalStateException", call);
    }

    void dueNoIndex(String what, Call call) {
        due(what, "throws IndexOutOfBoundsException", call);
    }

    void dueNoElement(String what, Call call) {
        due(what, "throws NoSuchElementException", call);
    }

    void finish(String test) {
        System.out.println(test + ": " + right + " answers as due, " + wrong + " not");
        if (wrong != 0) {
            System.exit(1);
        }
    }
}
