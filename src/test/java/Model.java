import java.math.BigInteger;
import java.util.ArrayList;
import java.util.List;
import java.util.regex.Matcher;
import java.util.regex.Pattern;

/** The document once more, written another way, with the Java library: what ModelTest holds the program against. */
final class Model {
    private static final Pattern NUMBER = Pattern.compile("^-?[0-9]{1,9}");
    private static final String CODES = "0123456789abcdefghijklmnopqrstuvwxyz ,";
    private static final String ORDER = " -,0123456789abcdefghijklmnopqrstuvwxyz";
    private static final BigInteger LEAST = BigInteger.valueOf(Integer.MIN_VALUE);
    private static final BigInteger GREATEST = BigInteger.valueOf(Integer.MAX_VALUE);

    private final List<int[]> rules = new ArrayList<>();
    private final List<List<int[]>> actions = new ArrayList<>();
    private final boolean[] within = new boolean[8];
    private final List<String> keys = new ArrayList<>();
    private final List<Integer> sums = new ArrayList<>();
    private final List<String> lines = new ArrayList<>();
    private String typed = "";
    private String record = "";
    private String separator = " ";
    private int records;
    private int faults;

    /** The answer of a call, told by its name; throws.Name for an exception. */
    String call(String name, int... a) {
        switch (name) {
            case "rule":
                return rule(a);
            case "act":
                return act(a);
            case "useStack":
                return "0";
            case "setSeparator":
                return setSeparator(a[0]);
            case "type":
                return type(a[0]);
            case "end":
                return end();
            case "setField":
                if (outside(a[0], 0, 12)) {
                    return index();
                }
                set(a[0], "" + a[1]);
                return "" + fields().length;
            case "fields":
                return "" + fields().length;
            case "number":
                return outside(a[0], 0, 12) ? index() : "" + numberOf(field(a[0]));
            case "character":
                return outside(a[0], 0, 12) ? index() : signOf(field(a[0]), a[1]);
            case "rows":
                return "" + keys.size();
            case "row":
                return outside(a[0], 0, keys.size() - 1) ? index() : "" + sums.get(a[0]);
            case "key":
                return outside(a[0], 0, keys.size() - 1) ? index() : signOf(keys.get(a[0]), a[1]);
            case "lines":
                return "" + lines.size();
            case "line":
                return outside(a[0], 0, lines.size() - 1) ? index() : signOf(lines.get(a[0]), a[1]);
            case "faults":
                return "" + faults;
            default:
                throw new IllegalStateException(name);
        }
    }

    private static boolean outside(int value, int least, int most) {
        return value < least || value > most;
    }

    private static String index() {
        return "throws.IndexOutOfBoundsException";
    }

    private static String argument() {
        return "throws.IllegalArgumentException";
    }

    private static String impossible() {
        return "throws.IllegalStateException";
    }

    private static String signOf(String text, int place) {
        return outside(place, 0, text.length() - 1) ? index() : "" + (int) text.charAt(place);
    }

    private String rule(int[] a) {
        int most1 = new int[] {0, 12, 12, 9999}[outside(a[0], 0, 3) ? 0 : a[0]];
        int most2 = new int[] {0, 9999, 12, 9999}[outside(a[0], 0, 3) ? 0 : a[0]];
        if (outside(a[0], 0, 3) || a[0] > 0 && (outside(a[1], 0, most1) || outside(a[2], 0, most2))) {
            return argument();
        }
        if (rules.size() == 8) {
            return impossible();
        }
        rules.add(a.clone());
        actions.add(new ArrayList<>());
        return "" + (rules.size() - 1);
    }

    private static boolean isOperand(int x) {
        return !outside(x, 0, 9999) || !outside(x, -13, -1) || x == -20 || x == -21;
    }

    private String act(int[] a) {
        if (outside(a[0], 0, rules.size() - 1)) {
            return index();
        }
        if (outside(a[1], 0, 4) || outside(a[2], 0, 12) || outside(a[3], 0, 4) || !isOperand(a[4]) || !isOperand(a[5])) {
            return argument();
        }
        if (actions.get(a[0]).size() == 6) {
            return impossible();
        }
        actions.get(a[0]).add(a.clone());
        return "" + actions.get(a[0]).size();
    }

    private String setSeparator(int code) {
        if (outside(code, 0, 37)) {
            return argument();
        }
        separator = CODES.substring(code, code + 1);
        return "" + fields().length;
    }

    private String type(int code) {
        if (outside(code, 0, 37)) {
            return argument();
        }
        if (typed.length() == 60) {
            return impossible();
        }
        typed += CODES.charAt(code);
        return "" + typed.length();
    }

    private String[] fields() {
        return record.isEmpty() ? new String[0] : record.split(Pattern.quote(separator), 12);
    }

    private String field(int field) {
        String[] all = fields();
        return field == 0 ? record : field <= all.length ? all[field - 1] : "";
    }

    private static String cutOff(String text) {
        return text.length() > 60 ? text.substring(0, 60) : text;
    }

    private void set(int field, String text) {
        if (field == 0) {
            record = text;
            return;
        }
        List<String> all = new ArrayList<>(List.of(fields()));
        while (all.size() < field) {
            all.add("");
        }
        all.set(field - 1, text);
        record = cutOff(String.join(separator, all));
    }

    private static String beginningOf(String text) {
        Matcher matcher = NUMBER.matcher(text);
        return matcher.find() ? matcher.group() : "";
    }

    private static int numberOf(String text) {
        String beginning = beginningOf(text);
        return beginning.isEmpty() ? 0 : Integer.parseInt(beginning);
    }

    private static boolean isNumeric(String text) {
        return !text.isEmpty() && beginningOf(text).equals(text);
    }

    private static int compare(String first, String second) {
        if (isNumeric(first) && isNumeric(second)) {
            return Integer.compare(numberOf(first), numberOf(second));
        }
        StringBuilder one = new StringBuilder();
        StringBuilder two = new StringBuilder();
        for (char sign : first.toCharArray()) {
            one.append((char) ('A' + ORDER.indexOf(sign)));
        }
        for (char sign : second.toCharArray()) {
            two.append((char) ('A' + ORDER.indexOf(sign)));
        }
        return one.toString().compareTo(two.toString());
    }

    private String end() {
        records++;
        record = typed;
        typed = "";
        int set = 0;
        for (int rule = 0; rule < rules.size(); rule++) {
            if (!isTrue(rule)) {
                continue;
            }
            set += 1 << rule;
            for (int[] action : actions.get(rule)) {
                if (action[1] == 4) {
                    return "" + set;
                }
                perform(action);
            }
        }
        return "" + set;
    }

    private boolean isTrue(int rule) {
        int[] r = rules.get(rule);
        if (r[0] == 1) {
            return compare(field(r[1]), "" + r[2]) == 0;
        }
        if (r[0] == 2) {
            return compare(field(r[1]), field(r[2])) < 0;
        }
        if (r[0] == 3) {
            boolean is = within[rule] || compare(field(1), "" + r[1]) == 0;
            within[rule] = is && compare(field(1), "" + r[2]) != 0;
            return is;
        }
        return true;
    }

    private String fitted(BigInteger number) {
        if (number.compareTo(LEAST) < 0 || number.compareTo(GREATEST) > 0) {
            faults++;
            return "0";
        }
        return number.toString();
    }

    private String operand(int x) {
        return x >= 0 ? "" + x : x == -20 ? "" + fields().length : x == -21 ? "" + records : field(-x - 1);
    }

    private String value(int operation, String x, String y) {
        BigInteger first = BigInteger.valueOf(numberOf(x));
        BigInteger second = BigInteger.valueOf(numberOf(y));
        switch (operation) {
            case 0:
                return x;
            case 1:
                return fitted(first.add(second));
            case 2:
                return fitted(first.subtract(second));
            case 3:
                return fitted(first.multiply(second));
            default:
                return cutOff(x + y);
        }
    }

    private void perform(int[] action) {
        String key = field(action[2]);
        int row = keys.indexOf(key);
        if (action[1] == 3) {
            if (row >= 0) {
                keys.remove(row);
                sums.remove(row);
            }
            return;
        }
        String value = value(action[3], operand(action[4]), operand(action[5]));
        if (action[1] == 0) {
            set(action[2], value);
        } else if (action[1] == 2) {
            lines.add(value);
            if (lines.size() > 40) {
                lines.remove(0);
            }
        } else if (row >= 0) {
            BigInteger sum = BigInteger.valueOf(sums.get(row)).add(BigInteger.valueOf(numberOf(value)));
            sums.set(row, Integer.parseInt(fitted(sum)));
        } else if (keys.size() < 20) {
            keys.add(key);
            sums.add(numberOf(value));
        }
    }
}
