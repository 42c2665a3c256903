import java.util.ArrayList;
import java.util.Arrays;
import java.util.List;

/** One call as a text tells it; want is null where the text tells no answer. */
record Call(String told, String name, int[] arguments, String want) {
    private static final String[] WORDS = {
        "POINT", "0", "WAY", "1", "RELATION", "2",
        "GONE", "-1", "OLD", "-2", "UNLIKE", "-3", "RING", "-4", "USED", "-5",
        "NO_INDEX", "throws.IndexOutOfBoundsException",
        "NO_ARGUMENT", "throws.IllegalArgumentException",
        "NO_STATE", "throws.IllegalStateException",
        "NO_ELEMENT", "throws.NoSuchElementException",
        "MAX", "2147483647", "MIN", "-2147483648",
    };

    /** Reads calls: one a line, or several with ; between them. How they are told is said by Script. */
    static List<Call> read(String text) {
        List<Call> calls = new ArrayList<>();
        for (String line : text.split("\n")) {
            for (String told : line.replaceFirst("#.*", "").split(";")) {
                if (!told.isBlank()) {
                    addTimes(calls, told.strip());
                }
            }
        }
        return calls;
    }

    String answer(MapRevisions map) {
        return Calls.answer(map, name, arguments);
    }

    private static void addTimes(List<Call> calls, String told) {
        int times = 1;
        String once = told;
        if (told.matches("[0-9]+x .*")) {
            times = Integer.parseInt(told.substring(0, told.indexOf('x')));
            once = told.substring(told.indexOf('x') + 1).strip();
        }
        for (int i = 0; i < times; i++) {
            calls.add(readOne(once));
        }
    }

    private static Call readOne(String told) {
        String[] parts = told.split("->");
        String[] words = parts[0].strip().split(" +");
        int[] arguments = Arrays.stream(words).skip(1).map(Call::plain)
                .mapToInt(Integer::parseInt).toArray();
        return new Call(told, words[0], arguments, parts.length == 2 ? plain(parts[1].strip()) : null);
    }

    private static String plain(String word) {
        for (int i = 0; i < WORDS.length; i += 2) {
            if (WORDS[i].equals(word)) {
                return WORDS[i + 1];
            }
        }
        return word;
    }
}
