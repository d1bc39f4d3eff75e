/** Counts what is not as due, prints it, and ends the program with exit code 1 if there was any. */
final class Check {
    /** A call whose answer or exception is looked at. */
    interface Call {
        Object answer();
    }

    private final String name;
    private int checks;
    private int wrong;

    Check(String name) {
        this.name = name;
    }

    void same(String what, Object got, Object due) {
        checks++;
        if (!java.util.Objects.equals(got, due)) {
            wrong++;
            if (wrong <= 40) {
                System.out.println(name + ": " + what + " answered <" + got + ">, due is <" + due + ">");
            }
        }
    }

    void holds(String what, boolean isSo) {
        same(what, isSo, true);
    }

    void index(String what, Call call) {
        same(what, outcome(call), "throws.IndexOutOfBoundsException");
    }

    void argument(String what, Call call) {
        same(what, outcome(call), "throws.IllegalArgumentException");
    }

    void state(String what, Call call) {
        same(what, outcome(call), "throws.IllegalStateException");
    }

    /** A call that has to throw the exception and to leave all as it was; RefusedTest looks closer. */
    void refused(Justline t, String due, String what, Call call) {
        String before = Texts.brief(t);
        same(what, outcome(call), "throws." + due);
        same(what + " changes nothing", Texts.brief(t), before);
    }

    void index(Justline t, String what, Call call) {
        refused(t, "IndexOutOfBoundsException", what, call);
    }

    void argument(Justline t, String what, Call call) {
        refused(t, "IllegalArgumentException", what, call);
    }

    void state(Justline t, String what, Call call) {
        refused(t, "IllegalStateException", what, call);
    }

    /** The answer as a text, or the very class that was thrown. */
    static String outcome(Call call) {
        try {
            return String.valueOf(call.answer());
        } catch (RuntimeException e) {
            return "throws." + e.getClass().getSimpleName();
        }
    }

    void end() {
        System.out.println(name + ": " + checks + " checks, " + wrong + " wrong");
        if (wrong > 0) {
            System.exit(1);
        }
    }
}
