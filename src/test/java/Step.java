/** A call of a run, told by its name and its arguments; what useStack takes is told as 1 or 0. */
record Step(String name, int... arguments) {
    /** The call made on an object; one that answers nothing answers 0. */
    long answer(FieldScribe scribe) {
        int[] a = arguments;
        switch (name) {
            case "rule":
                return scribe.rule(a[0], a[1], a[2]);
            case "act":
                return scribe.act(a[0], a[1], a[2], a[3], a[4], a[5]);
            case "useStack":
                scribe.useStack(a[0] == 1);
                return 0;
            case "setSeparator":
                return scribe.setSeparator(a[0]);
            case "type":
                return scribe.type(a[0]);
            case "end":
                return scribe.end();
            case "setField":
                return scribe.setField(a[0], a[1]);
            case "fields":
                return scribe.fields();
            case "number":
                return scribe.number(a[0]);
            case "character":
                return scribe.character(a[0], a[1]);
            case "rows":
                return scribe.rows();
            case "row":
                return scribe.row(a[0]);
            case "key":
                return scribe.key(a[0], a[1]);
            case "lines":
                return scribe.lines();
            case "line":
                return scribe.line(a[0], a[1]);
            case "faults":
                return scribe.faults();
            default:
                throw new IllegalStateException(name);
        }
    }
}
