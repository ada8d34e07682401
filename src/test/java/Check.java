/** What the tests share: counting wrong answers, typing texts and reading them back. */
final class Check {
    interface Call {
        long answer();
    }

    static final Class<?> INDEX = IndexOutOfBoundsException.class;
    static final Class<?> ARGUMENT = IllegalArgumentException.class;
    static final Class<?> STATE = IllegalStateException.class;

    private final String test;
    private int checks;
    private int wrong;

    Check(String test) {
        this.test = test;
    }

    void same(String what, long got, long want) {
        checks++;
        if (got != want) {
            fail(what + " answered " + got + ", due is " + want);
        }
    }

    void same(String what, String got, String want) {
        checks++;
        if (!got.equals(want)) {
            fail(what + " answered \"" + got + "\", due is \"" + want + "\"");
        }
    }

    /** The exception has to be of just that class, thrown by the program's own code. */
    void refused(String what, Class<?> kind, Call call) {
        checks++;
        String got = outcome(call);
        if (!got.equals("throws." + kind.getSimpleName())) {
            fail(what + " answered " + got + ", due is throws." + kind.getSimpleName());
        }
    }

    /** The same, and the object stands as it stood. */
    void refusedUnchanged(FieldScribe scribe, String what, Class<?> kind, Call call) {
        String before = state(scribe);
        refused(what, kind, call);
        same(what + ": the state behind it", state(scribe), before);
    }

    void finish() {
        System.out.println(test + ": " + checks + " checks, " + wrong + " wrong");
        if (wrong > 0) {
            System.exit(1);
        }
    }

    int count() {
        return checks;
    }

    boolean holds() {
        return wrong == 0;
    }

    void fail(String message) {
        wrong++;
        if (wrong <= 50) {
            System.out.println(test + ": " + message);
        }
    }

    /** The answer as a text; throws.Name for an exception that the program throws itself. */
    static String outcome(Call call) {
        try {
            return String.valueOf(call.answer());
        } catch (RuntimeException thrown) {
            StackTraceElement[] trace = thrown.getStackTrace();
            boolean own = trace.length > 0 && trace[0].getClassName().startsWith("FieldScribe");
            return (own ? "throws." : "machine.") + thrown.getClass().getSimpleName();
        }
    }

    static int codeOf(char sign) {
        int code = "0123456789abcdefghijklmnopqrstuvwxyz ,".indexOf(sign);
        if (code < 0) {
            throw new IllegalStateException("no code for " + sign);
        }
        return code;
    }

    static void type(FieldScribe scribe, String text) {
        for (char sign : text.toCharArray()) {
            scribe.type(codeOf(sign));
        }
    }

    /** Answers what end() answers. */
    static int enter(FieldScribe scribe, String text) {
        type(scribe, text);
        return scribe.end();
    }

    /** A language whose rule 0, for each record, has that one action. */
    static FieldScribe withAction(int kind, int field, int operation, int x, int y) {
        FieldScribe scribe = new FieldScribe();
        scribe.rule(0, 0, 0);
        scribe.act(0, kind, field, operation, x, y);
        return scribe;
    }

    private interface Reader {
        char at(int place);
    }

    private static String read(Reader reader) {
        StringBuilder text = new StringBuilder();
        try {
            for (int place = 0; place < 1000; place++) {
                text.append(reader.at(place));
            }
        } catch (IndexOutOfBoundsException behind) {
            return text.toString();
        }
        return text + " and so on without an end";
    }

    static String field(FieldScribe scribe, int field) {
        return read(place -> scribe.character(field, place));
    }

    static String key(FieldScribe scribe, int index) {
        return read(place -> scribe.key(index, place));
    }

    static String line(FieldScribe scribe, int line) {
        return read(place -> scribe.line(line, place));
    }

    /** All fields: how many there are, then the record and each of the twelve. */
    static String fields(FieldScribe scribe) {
        StringBuilder text = new StringBuilder().append(scribe.fields());
        for (int field = 0; field <= 12; field++) {
            text.append('|').append(field(scribe, field));
        }
        return text.toString();
    }

    static String rows(FieldScribe scribe) {
        StringBuilder text = new StringBuilder();
        for (int index = 0; index < scribe.rows(); index++) {
            text.append(key(scribe, index)).append('=').append(scribe.row(index)).append(';');
        }
        return text.toString();
    }

    static String lines(FieldScribe scribe) {
        StringBuilder text = new StringBuilder();
        for (int index = 0; index < scribe.lines(); index++) {
            text.append(line(scribe, index)).append(';');
        }
        return text.toString();
    }

    static String state(FieldScribe scribe) {
        return fields(scribe) + "/" + rows(scribe) + "/" + lines(scribe) + "/" + scribe.faults();
    }
}
