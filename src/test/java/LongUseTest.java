import java.util.Map;

/**
 * The most that 512 calls can make is made, and what comes behind the 512th call ends in an answer
 * or in an exception that the method names.
 */
public final class LongUseTest {
    private static final String INDEX = "throws.IndexOutOfBoundsException";
    private static final String ARGUMENT = "throws.IllegalArgumentException";
    private static final String STATE = "throws.IllegalStateException";
    private static final String ELEMENT = "throws.NoSuchElementException";

    private static final Map<String, String> ALLOWED = Map.ofEntries(
            Map.entry("point", INDEX + ARGUMENT + STATE), Map.entry("make", INDEX + ARGUMENT + STATE),
            Map.entry("move", INDEX + ARGUMENT + STATE), Map.entry("change", INDEX + ARGUMENT + STATE),
            Map.entry("delete", INDEX + STATE), Map.entry("undo", INDEX + STATE),
            Map.entry("close", INDEX + STATE), Map.entry("refer", INDEX + STATE),
            Map.entry("hide", INDEX + STATE), Map.entry("setOf", INDEX + ELEMENT),
            Map.entry("versionAt", INDEX + ARGUMENT), Map.entry("latest", INDEX),
            Map.entry("pass", ARGUMENT + STATE), Map.entry("inBox", ARGUMENT));

    public static void main(String[] args) {
        Script script = new Script();
        mostVersions(script);
        mostVersionsOfOne(script);
        behindTheLast(script);
        script.end("LongUseTest");
    }

    private static void mostVersions(Script script) {
        StringBuilder text = new StringBuilder("open; 39x point 0 1 1\n");
        for (int set = 1; set < 20; set++) {
            text.append("open; close ").append(set - 1).append(" -> 39; undo ").append(set).append(' ')
                    .append(set - 1).append(" -> 0\n");
        }
        // The sets undo one another, so the points are there again in every second one.
        text.append("isThere 0 -> false; isThere 38 -> false; latest 0 -> 20; latest 38 -> 20\n");
        text.append("pass 1; take 1 -> 780; isTrue -> true; point 19 1 1 -> 39\n");
        for (int version = 1; version <= 400; version++) {
            text.append("move 19 39 ").append(version).append(" 2 2 -> ").append(version + 1).append('\n');
        }
        text.append("close 19 -> 440\n");
        script.run("the most versions by undoing", text.toString());
    }

    private static void mostVersionsOfOne(Script script) {
        StringBuilder text = new StringBuilder("open; point 0 1 1\n");
        for (int version = 1; version <= 500; version++) {
            text.append("move 0 0 ").append(version).append(" 2 2 -> ").append(version + 1).append('\n');
        }
        text.append("close 0 -> 501; hide 0 1 -> 500; setOf 0 501 -> 0; setOf 0 502 -> NO_INDEX\n");
        script.run("the most versions of one thing", text.toString());
    }

    private static void behindTheLast(Script script) {
        MapRevisions map = new MapRevisions();
        map.open();
        map.point(0, 1, 1);
        for (int i = 0; i < 20000; i++) {
            int latest = map.latest(0);
            allowed(script, map, "move", 0, 0, latest, i % 100, 5);
            allowed(script, map, "point", 0, 3, 3);
            allowed(script, map, "refer", i % 45);
            allowed(script, map, "make", 0, i % 4);
            allowed(script, map, "change", 0, i % 41, 1);
            allowed(script, map, "delete", 0, i % 41, i);
            allowed(script, map, "undo", 1, 0);
            allowed(script, map, "hide", 0, i);
            allowed(script, map, "setOf", 0, i);
            allowed(script, map, "versionAt", 0, i);
            allowed(script, map, "inBox", 0, 0, i % 100, 99, 0);
            allowed(script, map, "pass", 1);
            map.wipe();
            map.isTrue();
        }
        script.due("the point is there", map.isThere(0), true);
    }

    private static void allowed(Script script, MapRevisions map, String name, int... arguments) {
        String got = Calls.answer(map, name, arguments);
        if (got.startsWith("throws.")) {
            script.due(name + " throws " + got, ALLOWED.get(name).contains(got), true);
        }
    }
}
