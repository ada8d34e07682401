import java.util.ArrayList;

/** A pattern and action language: records are typed in, cut into fields, and worked on by rules. */
public final class FieldScribe {
    private static final int MAX_TEXT = 60;
    private static final int MAX_FIELDS = 12;
    private static final int MAX_RULES = 8;
    private static final int MAX_ACTIONS = 6;
    private static final int MAX_ROWS = 20;
    private static final int MAX_LINES = 40;
    private static final int MAX_NUMBER = 9999;
    private static final int MAX_DIGITS = 9;

    private static final int FIRST_LETTER = 10;
    private static final int BLANK = 36;
    private static final int COMMA = 37;

    private static final int EACH = 0;
    private static final int SAME = 1;
    private static final int LESS = 2;
    private static final int RANGE = 3;

    private static final int SET = 0;
    private static final int GROW = 1;
    private static final int PRINT = 2;
    private static final int DROP = 3;
    private static final int NEXT = 4;

    private static final int FIRST = 0;
    private static final int SUM = 1;
    private static final int DIFFERENCE = 2;
    private static final int PRODUCT = 3;
    private static final int JOINED = 4;

    /** The stack machine's instruction that loads an operand; its other ones bear their operation's number. */
    private static final int PUSH = 0;

    private static final int WHOLE_RECORD = -1;
    private static final int LAST_FIELD = WHOLE_RECORD - MAX_FIELDS;
    private static final int FIELD_COUNT = -20;
    private static final int RECORD_NUMBER = -21;

    private final ArrayList<Rule> program = new ArrayList<Rule>();
    private final Page page = new Page();
    private final Table table = new Table();
    private final Printout printout = new Printout();
    private final StackMachine machine = new StackMachine();
    private final Text typed = new Text();
    private final Text value = new Text();
    private boolean stacked;
    private int faultCount;

    /** Creates a language without rules, with an empty record of the number 0. */
    public FieldScribe() {
    }

    // ---- rules

    /** Adds a rule; answers its number. */
    public int rule(int pattern, int a, int b) throws IllegalArgumentException, IllegalStateException {
        if (!isPattern(pattern, a, b)) {
            throw new IllegalArgumentException("no such pattern");
        }
        if (program.size() >= MAX_RULES) {
            throw new IllegalStateException("there are 8 rules");
        }
        program.add(new Rule(pattern, a, b));
        return program.size() - 1;
    }

    /** Adds an action to a rule; answers how many actions the rule has then. */
    public int act(int rule, int kind, int field, int operation, int x, int y)
            throws IndexOutOfBoundsException, IllegalArgumentException, IllegalStateException {
        if (rule < 0 || rule >= program.size()) {
            throw new IndexOutOfBoundsException("no such rule");
        }
        if (kind < SET || kind > NEXT || !isField(field)) {
            throw new IllegalArgumentException("no such action");
        }
        if (operation < FIRST || operation > JOINED || !isOperand(x) || !isOperand(y)) {
            throw new IllegalArgumentException("no such expression");
        }
        ArrayList<Action> actions = program.get(rule).actions;
        if (actions.size() >= MAX_ACTIONS) {
            throw new IllegalStateException("the rule has 6 actions");
        }
        actions.add(new Action(kind, field, treeOf(operation, x, y), codeOf(operation, x, y)));
        return actions.size();
    }

    /** Lets values be found by the stack machine, or by the tree walker, as at first. */
    public void useStack(boolean is) {
        stacked = is;
    }

    // ---- records

    /** Sets the separator and cuts the record anew; answers how many fields there are then. */
    public int setSeparator(int code) throws IllegalArgumentException {
        requireCode(code);
        page.separator = signOf(code);
        page.cut();
        return page.count;
    }

    /** Types a character of the next record; answers how many are typed. */
    public int type(int code) throws IllegalArgumentException, IllegalStateException {
        requireCode(code);
        if (typed.length >= MAX_TEXT) {
            throw new IllegalStateException("60 characters are typed");
        }
        typed.put(signOf(code));
        return typed.length;
    }

    /** Ends the record that was typed and runs the rules; answers the set of those that were true. */
    public int end() {
        page.number++;
        page.set(0, typed);
        typed.clear();
        int taken = 0;
        boolean going = true;
        for (int index = 0; going && index < program.size(); index++) {
            Rule rule = program.get(index);
            if (rule.isTrue(page)) {
                taken |= 1 << index;
                going = performAll(rule.actions);
            }
        }
        return taken;
    }

    /** Sets a field to a number, from outside; answers how many fields there are then. */
    public int setField(int field, int number) throws IndexOutOfBoundsException {
        requireField(field);
        value.write(number);
        page.set(field, value);
        return page.count;
    }

    /** Answers the number of fields of the record. */
    public int fields() {
        return page.count;
    }

    /** Answers the number of a field's text. */
    public int number(int field) throws IndexOutOfBoundsException {
        requireField(field);
        return page.get(field).asNumber();
    }

    /** Answers a character of a field. */
    public char character(int field, int place) throws IndexOutOfBoundsException {
        requireField(field);
        return signAt(page.get(field), place);
    }

    // ---- rows, lines and faults

    /** Answers how many rows there are. */
    public int rows() {
        return table.count;
    }

    /** Answers the number of a row; the row 0 was made first. */
    public int row(int index) throws IndexOutOfBoundsException {
        requirePlace(index, table.count);
        return table.get(index).sum;
    }

    /** Answers a character of a row's key. */
    public char key(int index, int place) throws IndexOutOfBoundsException {
        requirePlace(index, table.count);
        return signAt(table.get(index).name, place);
    }

    /** Answers how many lines are kept. */
    public int lines() {
        return printout.count;
    }

    /** Answers a character of a line; the line 0 is the first one that is kept. */
    public char line(int line, int place) throws IndexOutOfBoundsException {
        requirePlace(line, printout.count);
        return signAt(printout.get(line), place);
    }

    /** Answers how many faults there were. */
    public int faults() {
        return faultCount;
    }

    // ---- what arguments may be

    private static boolean isPattern(int pattern, int a, int b) {
        switch (pattern) {
            case EACH:
                return true;
            case SAME:
                return isField(a) && isNumber(b);
            case LESS:
                return isField(a) && isField(b);
            case RANGE:
                return isNumber(a) && isNumber(b);
            default:
                return false;
        }
    }

    private static boolean isField(int field) {
        return field >= 0 && field <= MAX_FIELDS;
    }

    private static boolean isNumber(int number) {
        return number >= 0 && number <= MAX_NUMBER;
    }

    private static boolean isOperand(int operand) {
        return isNumber(operand)
                || operand >= LAST_FIELD && operand <= WHOLE_RECORD
                || operand == FIELD_COUNT
                || operand == RECORD_NUMBER;
    }

    private static void requireField(int field) {
        if (!isField(field)) {
            throw new IndexOutOfBoundsException("no such field");
        }
    }

    private static void requireCode(int code) {
        if (code < 0 || code > COMMA) {
            throw new IllegalArgumentException("no such character code");
        }
    }

    private static void requirePlace(int place, int count) {
        if (place < 0 || place >= count) {
            throw new IndexOutOfBoundsException("no such place");
        }
    }

    // ---- characters

    private static char signOf(int code) {
        if (code == BLANK) {
            return ' ';
        }
        if (code == COMMA) {
            return ',';
        }
        return (char) (code < FIRST_LETTER ? '0' + code : 'a' + (code - FIRST_LETTER));
    }

    private static char signAt(Text text, int place) {
        requirePlace(place, text.length);
        return text.at(place);
    }

    /** Where a character stands when texts compare: unlike in ASCII, "-" is before the comma. */
    private static int rankOf(char sign) {
        switch (sign) {
            case ' ':
                return 0;
            case '-':
                return 1;
            case ',':
                return 2;
            default:
                return sign;
        }
    }

    // ---- running rules

    /** Answers false if no more is to be done with the record. */
    private boolean performAll(ArrayList<Action> actions) {
        for (int index = 0; index < actions.size(); index++) {
            if (!perform(actions.get(index))) {
                return false;
            }
        }
        return true;
    }

    private boolean perform(Action action) {
        if (action.kind == NEXT) {
            return false;
        }
        Text target = page.get(action.field);
        if (action.kind == DROP) {
            table.drop(target);
            return true;
        }
        faultCount += stacked ? machine.run(action.code, page, value) : action.tree.find(page, value);
        if (action.kind == SET) {
            page.set(action.field, value);
        } else if (action.kind == GROW) {
            faultCount += table.grow(target, value.asNumber());
        } else if (action.kind == PRINT) {
            printout.print(value);
        }
        return true;
    }

    private static Node treeOf(int operation, int x, int y) {
        if (operation == FIRST) {
            return new Leaf(x);
        }
        return new Fork(operation, new Leaf(x), new Leaf(y));
    }

    /** The expression as instructions of two numbers each. */
    private static int[] codeOf(int operation, int x, int y) {
        if (operation == FIRST) {
            return new int[] {PUSH, x};
        }
        return new int[] {PUSH, x, PUSH, y, operation, 0};
    }

    /** Lets the first text become the operation's result; answers how many faults that made. */
    private static int combine(int operation, Text first, Text second) {
        if (operation == JOINED) {
            first.add(second);
            return 0;
        }
        long result = calculate(operation, first.asNumber(), second.asNumber());
        boolean fits = isInt(result);
        first.write(fits ? (int) result : 0);
        return fits ? 0 : 1;
    }

    private static long calculate(int operation, long first, long second) {
        switch (operation) {
            case SUM:
                return first + second;
            case DIFFERENCE:
                return first - second;
            case PRODUCT:
                return first * second;
            default:
                return first;
        }
    }

    private static boolean isInt(long number) {
        return number >= Integer.MIN_VALUE && number <= Integer.MAX_VALUE;
    }

    /** A text of at most 60 characters; what would be more is cut off behind. */
    private static final class Text {
        private final char[] signs = new char[MAX_TEXT];
        private int length;

        void clear() {
            length = 0;
        }

        char at(int place) {
            return place >= 0 && place < length ? signs[place] : ' ';
        }

        void put(char sign) {
            if (length < signs.length) {
                signs[length] = sign;
                length++;
            }
        }

        void add(Text other) {
            int count = other.length;
            for (int place = 0; place < count; place++) {
                put(other.signs[place]);
            }
        }

        void copy(Text other) {
            length = other.length;
            for (int place = 0; place < length; place++) {
                signs[place] = other.signs[place];
            }
        }

        /** Becomes the number in decimal digits; taken as a long, since the least int has no opposite. */
        void write(int number) {
            long rest = number;
            length = 0;
            if (rest < 0) {
                rest = -rest;
                signs[0] = '-';
                length = 1;
            }
            for (long unit = 1000000000L; unit > 0; unit /= 10) {
                if ((rest >= unit || unit == 1) && length < signs.length) {
                    signs[length] = (char) ('0' + rest / unit % 10);
                    length++;
                }
            }
        }

        /** How many characters the number takes that the text begins with; 0 if there is none. */
        private int numberLength() {
            int start = length > 0 && signs[0] == '-' ? 1 : 0;
            int stop = start;
            while (stop < length && stop < start + MAX_DIGITS && signs[stop] >= '0' && signs[stop] <= '9') {
                stop++;
            }
            return stop > start ? stop : 0;
        }

        int asNumber() {
            int stop = numberLength();
            boolean below = at(0) == '-';
            int number = 0;
            for (int place = below ? 1 : 0; place < stop; place++) {
                number = number * 10 + (signs[place] - '0');
            }
            return below ? -number : number;
        }

        private boolean isNumeric() {
            return length > 0 && numberLength() == length;
        }

        /** A number's own text is numeric, so no text that is not numeric is the same. */
        boolean isSameAs(int number) {
            return isNumeric() && asNumber() == number;
        }

        boolean isLessThan(Text other) {
            if (isNumeric() && other.isNumeric()) {
                return asNumber() < other.asNumber();
            }
            int place = firstDifference(other);
            if (place < length && place < other.length) {
                return rankOf(signs[place]) < rankOf(other.signs[place]);
            }
            return length < other.length;
        }

        boolean hasSignsOf(Text other) {
            return length == other.length && firstDifference(other) == length;
        }

        /** The first place where the texts differ, or where the shorter one has ended. */
        private int firstDifference(Text other) {
            int place = 0;
            while (place < length && place < other.length && signs[place] == other.signs[place]) {
                place++;
            }
            return place;
        }
    }

    /** The record with its fields; those that there are not are kept as empty texts. */
    private static final class Page {
        private final Text whole = new Text();
        private final Text[] pieces = new Text[MAX_FIELDS];
        private char separator = ' ';
        private int count;
        private int number;

        Page() {
            for (int index = 0; index < pieces.length; index++) {
                pieces[index] = new Text();
            }
        }

        Text get(int field) {
            return field >= 1 && field <= pieces.length ? pieces[field - 1] : whole;
        }

        void set(int field, Text text) {
            get(field).copy(text);
            if (field > 0) {
                join(Math.max(count, field));
            }
            cut();
        }

        private void join(int last) {
            whole.clear();
            for (int field = 1; field <= last; field++) {
                if (field > 1) {
                    whole.put(separator);
                }
                whole.add(get(field));
            }
        }

        void cut() {
            for (int index = 0; index < pieces.length; index++) {
                pieces[index].clear();
            }
            count = whole.length > 0 ? 1 : 0;
            for (int place = 0; place < whole.length; place++) {
                char sign = whole.at(place);
                if (sign == separator && count < MAX_FIELDS) {
                    count++;
                } else {
                    get(count).put(sign);
                }
            }
        }

        void load(int operand, Text out) {
            if (operand >= 0) {
                out.write(operand);
            } else if (operand == FIELD_COUNT) {
                out.write(count);
            } else if (operand == RECORD_NUMBER) {
                out.write(number);
            } else {
                out.copy(get(WHOLE_RECORD - operand));
            }
        }
    }

    private static final class Rule {
        private final int pattern;
        private final int a;
        private final int b;
        private final ArrayList<Action> actions = new ArrayList<Action>();
        private boolean open;

        Rule(int pattern, int a, int b) {
            this.pattern = pattern;
            this.a = a;
            this.b = b;
        }

        boolean isTrue(Page page) {
            switch (pattern) {
                case SAME:
                    return page.get(a).isSameAs(b);
                case LESS:
                    return page.get(a).isLessThan(page.get(b));
                case RANGE:
                    return isInRange(page.get(1));
                default:
                    return true;
            }
        }

        private boolean isInRange(Text first) {
            if (!open && !first.isSameAs(a)) {
                return false;
            }
            open = !first.isSameAs(b);
            return true;
        }
    }

    private static final class Action {
        private final int kind;
        private final int field;
        private final Node tree;
        private final int[] code;

        Action(int kind, int field, Node tree, int[] code) {
            this.kind = kind;
            this.field = field;
            this.tree = tree;
            this.code = code;
        }
    }

    /** A part of an expression's tree. */
    private abstract static class Node {
        /** Writes the value; answers how many faults that made. */
        abstract int find(Page page, Text out);
    }

    private static final class Leaf extends Node {
        private final int operand;

        Leaf(int operand) {
            this.operand = operand;
        }

        int find(Page page, Text out) {
            page.load(operand, out);
            return 0;
        }
    }

    private static final class Fork extends Node {
        private final int operation;
        private final Leaf left;
        private final Leaf right;
        private final Text second = new Text();

        Fork(int operation, Leaf left, Leaf right) {
            this.operation = operation;
            this.left = left;
            this.right = right;
        }

        int find(Page page, Text out) {
            int made = left.find(page, out) + right.find(page, second);
            return made + combine(operation, out, second);
        }
    }

    private static final class StackMachine {
        private static final int MAX_DEPTH = 2;

        private final Text[] stack = new Text[MAX_DEPTH];

        StackMachine() {
            for (int index = 0; index < stack.length; index++) {
                stack[index] = new Text();
            }
        }

        /** Writes the value that the code leaves on the stack; answers how many faults that made. */
        int run(int[] code, Page page, Text out) {
            int depth = 0;
            int made = 0;
            for (int at = 0; at + 1 < code.length; at += 2) {
                if (code[at] == PUSH && depth < stack.length) {
                    page.load(code[at + 1], stack[depth]);
                    depth++;
                } else if (code[at] != PUSH && depth >= 2) {
                    made += combine(code[at], stack[depth - 2], stack[depth - 1]);
                    depth--;
                }
            }
            if (depth > 0) {
                out.copy(stack[depth - 1]);
            }
            return made;
        }
    }

    private static final class Row {
        private final Text name = new Text();
        private int sum;
    }

    /** The keyed rows, in the order in which they were made. */
    private static final class Table {
        private final Row[] all = new Row[MAX_ROWS];
        private int count;

        Table() {
            for (int index = 0; index < all.length; index++) {
                all[index] = new Row();
            }
        }

        Row get(int index) {
            return all[index >= 0 && index < all.length ? index : 0];
        }

        /** The place of the row with that key; the number of rows if there is none. */
        private int find(Text name) {
            int index = 0;
            while (index < count && !get(index).name.hasSignsOf(name)) {
                index++;
            }
            return index;
        }

        /** Answers how many faults that made. */
        int grow(Text name, int amount) {
            int index = find(name);
            if (index >= all.length) {
                return 0;
            }
            Row row = get(index);
            if (index == count) {
                row.name.copy(name);
                row.sum = 0;
                count++;
            }
            long sum = (long) row.sum + amount;
            boolean fits = isInt(sum);
            row.sum = fits ? (int) sum : 0;
            return fits ? 0 : 1;
        }

        /** The dropped row's object goes behind the rows that are left, to be used again. */
        void drop(Text name) {
            int index = find(name);
            if (index >= count) {
                return;
            }
            Row dropped = get(index);
            count--;
            for (int place = index; place < count && place + 1 < all.length; place++) {
                all[place] = all[place + 1];
            }
            if (count >= 0 && count < all.length) {
                all[count] = dropped;
            }
        }
    }

    /** The last 40 lines, in a ring. */
    private static final class Printout {
        private final Text[] ring = new Text[MAX_LINES];
        private int start;
        private int count;

        Printout() {
            for (int index = 0; index < ring.length; index++) {
                ring[index] = new Text();
            }
        }

        Text get(int line) {
            int place = (start + line) % MAX_LINES;
            return ring[place >= 0 ? place : 0];
        }

        void print(Text text) {
            if (count < ring.length) {
                count++;
            } else {
                start = (start + 1) % MAX_LINES;
            }
            get(count - 1).copy(text);
        }
    }
}
