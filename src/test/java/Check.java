/** Counts the answers that are not the ones that are due. */
final class Check {
    interface Call {
        long answer();
    }

    private final String name;
    private int checks;
    private int wrong;

    Check(String name) {
        this.name = name;
    }

    void due(String what, long got, long want) {
        checks++;
        if (got != want) {
            tellWrong(what + " answered " + got + ", due is " + want);
        }
    }

    void dueDouble(String what, double got, double want) {
        checks++;
        if (got != want) {
            tellWrong(what + " answered " + got + ", due is " + want);
        }
    }

    void dueTrue(String what, boolean holds) {
        checks++;
        if (!holds) {
            tellWrong(what);
        }
    }

    /** The call throws just this exception, and leaves the state and the text as they are. */
    void dueThrow(String what, FindTables x, Class<? extends RuntimeException> kind, Call call) {
        checks++;
        long before = x.digest();
        RuntimeException thrown = null;
        try {
            call.answer();
        } catch (RuntimeException e) {
            thrown = e;
        }
        if (thrown == null || thrown.getClass() != kind) {
            tellWrong(what + " threw " + thrown + ", due is " + kind.getSimpleName());
        }
        if (x.digest() != before) {
            tellWrong(what + " changed the state though it throws");
        }
    }

    private void tellWrong(String text) {
        wrong++;
        System.out.println(name + ": " + text);
    }

    void finish() {
        System.out.println(name + ": " + checks + " checks, " + wrong + " wrong");
        if (wrong != 0) {
            System.exit(1);
        }
    }

    static FindTables withText(String text) {
        FindTables x = new FindTables();
        write(x, text);
        return x;
    }

    static void write(FindTables x, String text) {
        for (int i = 0; i < text.length(); i++) {
            x.append(text.charAt(i));
        }
    }

    /** A new object whose tables are those of the text; its text is empty again, one state is saved. */
    static FindTables tables(String text) {
        FindTables x = withText(text);
        if (x.parse() < 0) {
            throw new IllegalStateException("the test's own text has a fault: " + text);
        }
        x.clearText();
        return x;
    }
}
