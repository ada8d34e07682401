import java.util.ArrayList;
import java.util.Arrays;
import java.util.List;
import java.util.Random;

/**
 * Runs of calls made by a fixed seed, answered by the program (tree, stack, both in turn) and by the model alike.
 * No object is asked more than 512 times: what is read behind a run is read from objects that made the run anew.
 */
public final class ModelTest {
    private static final int RUNS = 2000;
    private static final int CALLS = 512;
    private static final int LOOKS = 8;
    private static final int LATEST_LOOK = 400;
    private static final String[] READERS = {
        "fields", "number", "character", "rows", "row", "key", "lines", "line", "faults",
    };
    private static final int[] WILD = {
        Integer.MIN_VALUE, Integer.MAX_VALUE, -1, -14, -19, -22, 5, 13, 20, 38, 40, 60, 10000,
    };

    private final Random random;
    private final int machine;
    private final int favourite;
    private final int letters;

    private ModelTest(int seed) {
        random = new Random(seed);
        machine = seed % 3;
        favourite = random.nextInt(4);
        letters = 1 + random.nextInt(6);
    }

    public static void main(String[] args) {
        Check all = new Check("ModelTest");
        for (int seed = 1; seed <= RUNS; seed++) {
            all.same("run " + seed + ", first wrong call", new ModelTest(seed).run(), "");
        }
        all.finish();
    }

    private String run() {
        List<Step> steps = new ArrayList<>();
        for (int count = 1; count <= CALLS; count++) {
            steps.add(pickStep(count));
        }
        String wrong = play(steps);
        for (int look = 0; look < LOOKS && wrong.isEmpty(); look++) {
            wrong = lookBehind(steps.subList(0, 1 + random.nextInt(LATEST_LOOK)));
        }
        return wrong;
    }

    /** Answers the first call that a new object answers otherwise than the model; nothing if there is none. */
    private static String play(List<Step> steps) {
        FieldScribe scribe = new FieldScribe();
        Model model = new Model();
        int count = 0;
        for (Step step : steps) {
            count++;
            String got = Check.outcome(() -> step.answer(scribe));
            String want = model.call(step.name(), step.arguments());
            if (!got.equals(want)) {
                return count + ". " + step.name() + Arrays.toString(step.arguments()) + ": " + got + ", due is " + want;
            }
        }
        return "";
    }

    /** Reads all that can be read behind the steps, from as many objects as it takes. */
    private static String lookBehind(List<Step> steps) {
        List<Step> readings = readingsBehind(steps);
        int room = CALLS - steps.size();
        String wrong = "";
        for (int from = 0; from < readings.size() && wrong.isEmpty(); from += room) {
            List<Step> whole = new ArrayList<>(steps);
            whole.addAll(readings.subList(from, Math.min(from + room, readings.size())));
            wrong = play(whole);
        }
        return wrong;
    }

    private static List<Step> readingsBehind(List<Step> steps) {
        Model model = new Model();
        for (Step step : steps) {
            model.call(step.name(), step.arguments());
        }
        List<Step> readings = new ArrayList<>();
        for (String name : new String[] {"fields", "rows", "lines", "faults"}) {
            readings.add(new Step(name));
        }
        addEach(readings, model, "number");
        addEach(readings, model, "row");
        addEachSign(readings, model, "character");
        addEachSign(readings, model, "key");
        addEachSign(readings, model, "line");
        return readings;
    }

    /** The reading of each place from 0 on; the last one, behind them all, is refused. */
    private static void addEach(List<Step> readings, Model model, String name, int... before) {
        boolean refused = false;
        for (int place = 0; !refused; place++) {
            int[] arguments = Arrays.copyOf(before, before.length + 1);
            arguments[before.length] = place;
            readings.add(new Step(name, arguments));
            refused = isRefused(model, name, arguments);
        }
    }

    private static void addEachSign(List<Step> readings, Model model, String name) {
        int count = name.equals("character") ? 13 : Integer.parseInt(model.call(name.equals("key") ? "rows" : "lines"));
        for (int index = 0; index <= count; index++) {
            addEach(readings, model, name, index);
        }
    }

    private static boolean isRefused(Model model, String name, int... arguments) {
        return model.call(name, arguments).startsWith("throws.");
    }

    private Step pickStep(int count) {
        String name = pickName(count);
        if (name.equals("useStack")) {
            return new Step(name, machine == 2 ? random.nextInt(2) : machine);
        }
        int[] arguments = pickArguments(name);
        if (random.nextInt(60) == 0 && arguments.length > 0) {
            arguments[random.nextInt(arguments.length)] = WILD[random.nextInt(WILD.length)];
        }
        return new Step(name, arguments);
    }

    private String pickName(int count) {
        int dice = random.nextInt(100);
        if (count < 40) {
            return dice < 20 ? "rule" : dice < 90 ? "act" : dice < 95 ? "setSeparator" : "useStack";
        }
        if (dice < 55) {
            return "type";
        }
        if (dice < 75) {
            return "end";
        }
        if (dice < 80) {
            return "setField";
        }
        if (dice < 84) {
            return dice == 80 ? "rule" : dice == 81 ? "act" : dice == 82 ? "setSeparator" : "useStack";
        }
        return READERS[random.nextInt(READERS.length)];
    }

    private int[] pickArguments(String name) {
        switch (name) {
            case "rule":
                return pickRule();
            case "act":
                return new int[] {random.nextInt(5), pickKind(), pickField(), random.nextInt(5), pickOperand(), pickOperand()};
            case "setSeparator":
            case "type":
                return new int[] {pickCode()};
            case "setField":
                return new int[] {pickField(), pickNumber()};
            case "number":
                return new int[] {random.nextInt(13)};
            case "character":
                return new int[] {random.nextInt(13), random.nextInt(6)};
            case "row":
                return new int[] {random.nextInt(4)};
            case "key":
            case "line":
                return new int[] {random.nextInt(4), random.nextInt(6)};
            default:
                return new int[0];
        }
    }

    private int[] pickRule() {
        int pattern = random.nextInt(4);
        int small = random.nextInt(3);
        if (pattern == 1) {
            return new int[] {1, pickField(), small};
        }
        return pattern == 2 ? new int[] {2, pickField(), pickField()} : new int[] {pattern, small, random.nextInt(3)};
    }

    private int pickKind() {
        int dice = random.nextInt(20);
        return dice == 0 ? 4 : dice < 3 ? 3 : favourite < 3 && dice < 9 ? favourite : random.nextInt(3);
    }

    private int pickField() {
        return random.nextInt(4) == 0 ? random.nextInt(13) : random.nextInt(4);
    }

    private int pickOperand() {
        switch (random.nextInt(8)) {
            case 0:
                return random.nextInt(12);
            case 1:
                return 9000 + random.nextInt(1000);
            case 2:
                return -20 - random.nextInt(2);
            case 3:
                return -1 - random.nextInt(13);
            default:
                return -1 - random.nextInt(4);
        }
    }

    private int pickCode() {
        int dice = random.nextInt(10);
        if (dice < 3) {
            return 36;
        }
        return dice < 4 ? 37 : dice < 7 ? random.nextInt(3) + (dice == 4 ? 7 : 0) : dice < 9 ? 9 + random.nextInt(letters)
                : random.nextInt(38);
    }

    private int pickNumber() {
        int dice = random.nextInt(4);
        return dice == 0 ? random.nextInt() : dice == 1 ? -random.nextInt(200) : random.nextInt(1000);
    }
}
