import java.util.Arrays;

/**
 * Runs of calls written as texts, one call a line or several with ; between them:
 *
 * <pre>
 * # behind this sign stands a remark
 * open -> 0
 * 3x point 0 10 20
 * delete 0 7 1 -> throws.IndexOutOfBoundsException
 * </pre>
 *
 * A call without an answer may answer anything but a refusal or an exception. The words WAY, GONE
 * and their like stand for the numbers that the document gives them.
 */
final class Script {
    private static final String[] WORDS = {
        "POINT", "0", "WAY", "1", "RELATION", "2",
        "GONE", "-1", "OLD", "-2", "UNLIKE", "-3", "RING", "-4", "USED", "-5",
        "NO_INDEX", "throws.IndexOutOfBoundsException",
        "NO_ARGUMENT", "throws.IllegalArgumentException",
        "NO_STATE", "throws.IllegalStateException",
        "NO_ELEMENT", "throws.NoSuchElementException",
    };

    private int runs = 0;
    private int checks = 0;
    private int wrong = 0;

    /** Runs the calls of a text on a new object. */
    void run(String title, String text) {
        runs++;
        MapRevisions map = new MapRevisions();
        for (String line : text.split("\n")) {
            String told = line.replaceFirst("#.*", "");
            for (String call : told.split(";")) {
                if (!call.isBlank()) {
                    callTimes(title, map, call.strip());
                }
            }
        }
    }

    void due(String what, Object got, Object want) {
        checks++;
        if (!String.valueOf(got).equals(String.valueOf(want))) {
            wrong++;
            System.out.println(what + " answered " + got + ", due is " + want);
        }
    }

    /** Tells how it went, and ends the program with exit code 1 if an answer was not the due one. */
    void end(String name) {
        System.out.println(name + ": " + runs + " runs, " + checks + " checks, " + wrong + " wrong");
        if (wrong != 0) {
            System.exit(1);
        }
    }

    private void callTimes(String title, MapRevisions map, String told) {
        int times = 1;
        String call = told;
        if (told.matches("[0-9]+x .*")) {
            times = Integer.parseInt(told.substring(0, told.indexOf('x')));
            call = told.substring(told.indexOf('x') + 1).strip();
        }
        for (int i = 0; i < times; i++) {
            callOnce(title, map, call);
        }
    }

    private void callOnce(String title, MapRevisions map, String told) {
        String[] parts = told.split("->");
        String[] words = parts[0].strip().split(" +");
        int[] arguments = Arrays.stream(words).skip(1).map(Script::plain)
                .mapToInt(Integer::parseInt).toArray();
        String got = Calls.answer(map, words[0], arguments);
        if (parts.length == 2) {
            due(title + ": " + told, got, plain(parts[1].strip()));
        } else if (got.startsWith("throws.") || got.startsWith("-")) {
            due(title + ": " + told, got, "no refusal and no exception");
        }
    }

    private static String plain(String word) {
        for (int i = 0; i < WORDS.length; i += 2) {
            if (WORDS[i].equals(word)) {
                return WORDS[i + 1];
            }
        }
        return word;
    }
}
