/** Long mixed runs: each call's answer is the model's, too. The runs are the same every time. */
public final class ModelTest {
    private static final int RUNS = 2000;
    private static final int CALLS = 512;

    /** How often each call is made in a run: a builder's, an undoer's, a reader's, one of relations. */
    private static final String[] NAMES = {
        "open", "close", "refer", "wipe", "point", "make", "move", "change", "delete", "undo",
        "things", "latest", "isThere", "whereIs", "members", "usedBy", "hide", "setOf", "versionAt",
        "inBox", "pass", "take", "inCopy", "isTrue",
    };
    private static final int[][] WEIGHTS = {
        {2, 1, 20, 6, 12, 14, 6, 16, 10, 3, 1, 2, 2, 2, 2, 4, 3, 3, 3, 8, 3, 3, 3, 2},
        {6, 6, 16, 6, 6, 10, 10, 14, 10, 12, 1, 3, 3, 3, 3, 4, 1, 2, 2, 3, 2, 2, 2, 1},
        {3, 3, 8, 3, 8, 5, 14, 4, 6, 4, 1, 2, 2, 2, 2, 2, 8, 8, 8, 3, 8, 8, 8, 6},
        {5, 4, 24, 14, 2, 10, 1, 24, 4, 8, 1, 2, 2, 1, 2, 4, 1, 1, 1, 3, 1, 1, 1, 1},
    };

    private final boolean longMinutes;
    private long seed;
    private MapRevisions map;
    private Model model;
    private int sets;
    private int things;

    private ModelTest(long seed) {
        this.seed = seed;
        this.longMinutes = seed % 5 == 4;
    }

    public static void main(String[] args) {
        int wrong = 0;
        for (int run = 0; run < RUNS && wrong < 5; run++) {
            wrong += new ModelTest(run).run(WEIGHTS[run % WEIGHTS.length]) ? 0 : 1;
        }
        System.out.println("ModelTest: " + RUNS + " runs of " + CALLS + " calls, " + wrong + " wrong");
        if (wrong != 0) {
            System.exit(1);
        }
    }

    private boolean run(int[] weights) {
        map = new MapRevisions();
        model = new Model();
        sets = 0;
        things = 0;
        StringBuilder told = new StringBuilder();
        for (int i = 0; i < CALLS; i++) {
            String name = i == 0 ? "open" : pickName(weights);
            int[] arguments = arguments(name);
            String got = Calls.answer(map, name, arguments);
            String want = model.answer(name, arguments);
            told.append(name).append(' ').append(text(arguments)).append("-> ").append(want).append('\n');
            if (!got.equals(want)) {
                System.out.println(told + "answered " + got);
                return false;
            }
            follow(name, want);
        }
        return true;
    }

    private void follow(String name, String answer) {
        if (answer.startsWith("throws.") || answer.startsWith("-")) {
            return;
        }
        if (name.equals("open")) {
            sets++;
        }
        if (name.equals("point") || name.equals("make")) {
            things++;
        }
    }

    private int[] arguments(String name) {
        return switch (name) {
            case "open", "wipe", "things", "isTrue" -> new int[] {};
            case "close" -> new int[] {set()};
            case "point" -> new int[] {set(), place(), place()};
            case "make" -> new int[] {set(), below(20) == 0 ? wild(3) : 1 + below(2)};
            case "move", "change", "delete" -> ofVersion(name);
            case "undo" -> new int[] {set(), set()};
            case "hide", "setOf" -> ofPast();
            case "versionAt" -> new int[] {thing(), below(8) == 0 ? wild(5000) : below(60)};
            case "inBox" -> box();
            case "pass", "take" -> new int[] {minutes()};
            default -> new int[] {thing()};
        };
    }

    private int[] ofVersion(String name) {
        int thing = thing();
        int version = below(6) == 0 ? wild(9) : lastOf(thing);
        return name.equals("move") ? new int[] {set(), thing, version, place(), place()}
                : new int[] {set(), thing, version};
    }

    private int[] ofPast() {
        int thing = thing();
        return new int[] {thing, below(10) == 0 ? wild(9) : 1 + below(Math.max(1, lastOf(thing)))};
    }

    private int[] box() {
        int x = place();
        int y = place();
        int kind = below(20) == 0 ? wild(3) : below(3);
        return new int[] {x, y, x + below(60) - 2, y + below(60) - 2, kind};
    }

    private int minutes() {
        return below(12) == 0 ? wild(101) : 1 + below(below(20) == 0 || longMinutes ? 100 : 6);
    }

    private int lastOf(int thing) {
        String last = model.answer("latest", thing);
        return last.startsWith("throws.") ? 1 : Integer.parseInt(last);
    }

    /** A set, mostly one of the last ones, that may be open still. */
    private int set() {
        if (below(30) == 0) {
            return wild(21);
        }
        return below(2) == 0 ? sets - 1 - below(3) : below(Math.max(1, sets));
    }

    /** A thing, mostly one of the first or the last ones, so that they meet often. */
    private int thing() {
        if (below(30) == 0) {
            return wild(41);
        }
        int few = Math.max(1, Math.min(things, 6));
        return switch (below(3)) {
            case 0 -> below(Math.max(1, things));
            case 1 -> below(few);
            default -> Math.max(things, 1) - 1 - below(few);
        };
    }

    private int place() {
        return below(40) == 0 ? wild(100) : 5 * below(20) + (below(5) == 0 ? 4 : 0);
    }

    /** A number that is often none of the range. */
    private int wild(int range) {
        return switch (below(6)) {
            case 0 -> -1;
            case 1 -> range;
            case 2 -> range + 1;
            case 3 -> Integer.MAX_VALUE;
            case 4 -> Integer.MIN_VALUE;
            default -> below(range + 1);
        };
    }

    private String pickName(int[] weights) {
        int sum = 0;
        for (int weight : weights) {
            sum += weight;
        }
        int at = below(sum);
        int which = 0;
        while (at >= weights[which]) {
            at -= weights[which];
            which++;
        }
        return NAMES[which];
    }

    private int below(int bound) {
        seed = seed * 6364136223846793005L + 1442695040888963407L;
        return (int) ((seed >>> 33) % bound);
    }

    private static String text(int[] arguments) {
        StringBuilder text = new StringBuilder();
        for (int argument : arguments) {
            text.append(argument).append(' ');
        }
        return text.toString();
    }
}
