import java.util.Arrays;
import java.util.Random;

/** Runs of calls made by a fixed seed, answered by the program (tree, stack, both in turn) and by the model alike. */
public final class ModelTest {
    private static final int RUNS = 2000;
    private static final int CALLS = 512;
    private static final String[] READERS = {
        "fields", "number", "character", "rows", "row", "key", "lines", "line", "faults",
    };
    private static final int[] WILD = {
        Integer.MIN_VALUE, Integer.MAX_VALUE, -1, -14, -19, -22, 5, 13, 20, 38, 40, 60, 10000,
    };

    private final Random random;
    private final Model model = new Model();
    private final FieldScribe scribe = new FieldScribe();
    private final int favourite;
    private final int letters;

    private ModelTest(int seed) {
        random = new Random(seed);
        favourite = random.nextInt(4);
        letters = 1 + random.nextInt(6);
    }

    public static void main(String[] args) {
        Check all = new Check("ModelTest");
        for (int seed = 1; seed <= RUNS; seed++) {
            all.same("run " + seed + ", first wrong call", new ModelTest(seed).run(seed), "");
        }
        all.finish();
    }

    private String run(int seed) {
        for (int count = 1; count <= CALLS; count++) {
            String name = pickName(count);
            int[] arguments = pickArguments(name);
            if (random.nextInt(60) == 0 && arguments.length > 0) {
                arguments[random.nextInt(arguments.length)] = WILD[random.nextInt(WILD.length)];
            }
            boolean is = seed % 3 == 1 || seed % 3 == 2 && random.nextBoolean();
            if (name.equals("useStack")) {
                scribe.useStack(is);
                continue;
            }
            String got = Check.outcome(() -> call(name, arguments));
            String want = model.call(name, arguments);
            if (!got.equals(want)) {
                return count + ". " + name + Arrays.toString(arguments) + ": " + got + ", due is " + want;
            }
            if ((name.equals("end") || count == CALLS) && !Check.state(scribe).equals(model.state())) {
                return count + ". state " + Check.state(scribe) + ", due is " + model.state();
            }
        }
        return "";
    }

    private long call(String name, int[] a) {
        switch (name) {
            case "rule":
                return scribe.rule(a[0], a[1], a[2]);
            case "act":
                return scribe.act(a[0], a[1], a[2], a[3], a[4], a[5]);
            case "setSeparator":
                return scribe.setSeparator(a[0]);
            case "type":
                return scribe.type(a[0]);
            case "end":
                return scribe.end();
            case "setField":
                return scribe.setField(a[0], a[1]);
            case "fields":
                return scribe.fields();
            case "number":
                return scribe.number(a[0]);
            case "character":
                return scribe.character(a[0], a[1]);
            case "rows":
                return scribe.rows();
            case "row":
                return scribe.row(a[0]);
            case "key":
                return scribe.key(a[0], a[1]);
            case "lines":
                return scribe.lines();
            case "line":
                return scribe.line(a[0], a[1]);
            default:
                return scribe.faults();
        }
    }

    private String pickName(int count) {
        int dice = random.nextInt(100);
        if (count < 40) {
            return dice < 20 ? "rule" : dice < 90 ? "act" : dice < 95 ? "setSeparator" : "useStack";
        }
        if (dice < 55) {
            return "type";
        }
        if (dice < 75) {
            return "end";
        }
        if (dice < 80) {
            return "setField";
        }
        if (dice < 84) {
            return dice == 80 ? "rule" : dice == 81 ? "act" : dice == 82 ? "setSeparator" : "useStack";
        }
        return READERS[random.nextInt(READERS.length)];
    }

    private int[] pickArguments(String name) {
        switch (name) {
            case "rule":
                return pickRule();
            case "act":
                return new int[] {random.nextInt(5), pickKind(), pickField(), random.nextInt(5), pickOperand(), pickOperand()};
            case "setSeparator":
            case "type":
                return new int[] {pickCode()};
            case "setField":
                return new int[] {pickField(), pickNumber()};
            case "number":
                return new int[] {random.nextInt(13)};
            case "character":
                return new int[] {random.nextInt(13), random.nextInt(6)};
            case "row":
                return new int[] {random.nextInt(4)};
            case "key":
            case "line":
                return new int[] {random.nextInt(4), random.nextInt(6)};
            default:
                return new int[0];
        }
    }

    private int[] pickRule() {
        int pattern = random.nextInt(4);
        int small = random.nextInt(3);
        if (pattern == 1) {
            return new int[] {1, pickField(), small};
        }
        return pattern == 2 ? new int[] {2, pickField(), pickField()} : new int[] {pattern, small, random.nextInt(3)};
    }

    private int pickKind() {
        int dice = random.nextInt(20);
        return dice == 0 ? 4 : dice < 3 ? 3 : favourite < 3 && dice < 9 ? favourite : random.nextInt(3);
    }

    private int pickField() {
        return random.nextInt(4) == 0 ? random.nextInt(13) : random.nextInt(4);
    }

    private int pickOperand() {
        switch (random.nextInt(8)) {
            case 0:
                return random.nextInt(12);
            case 1:
                return 9000 + random.nextInt(1000);
            case 2:
                return -20 - random.nextInt(2);
            case 3:
                return -1 - random.nextInt(13);
            default:
                return -1 - random.nextInt(4);
        }
    }

    private int pickCode() {
        int dice = random.nextInt(10);
        if (dice < 3) {
            return 36;
        }
        return dice < 4 ? 37 : dice < 7 ? random.nextInt(3) + (dice == 4 ? 7 : 0) : dice < 9 ? 9 + random.nextInt(letters)
                : random.nextInt(38);
    }

    private int pickNumber() {
        int dice = random.nextInt(4);
        return dice == 0 ? random.nextInt() : dice == 1 ? -random.nextInt(200) : random.nextInt(1000);
    }
}
