/**
 * Runs of calls written as texts, one call a line or several with ; between them:
 *
 * <pre>
 * # behind this sign stands a remark
 * open -> 0
 * 3x point 0 10 20
 * delete 0 7 1 -> throws.IndexOutOfBoundsException
 * </pre>
 *
 * A call without an answer may answer anything but a refusal or an exception. The words WAY, GONE
 * and their like stand for the numbers that the document gives them.
 */
final class Script {
    private static final int MOST_CALLS = 512;

    private int runs = 0;
    private int checks = 0;
    private int wrong = 0;

    /** Runs the calls of a text on a new object. */
    void run(String title, String text) {
        runs++;
        MapRevisions map = new MapRevisions();
        int made = 0;
        for (Call call : Call.read(text)) {
            made++;
            check(title, call, call.answer(map));
        }
        if (made > MOST_CALLS) {
            due(title + ": calls of one object, at most " + MOST_CALLS, made, MOST_CALLS);
        }
    }

    /** Makes each call of a text on a new object behind the setup: it is refused and changes nothing. */
    void refused(String title, String setup, String calls) {
        for (Call call : Call.read(calls)) {
            boolean refusal = call.want() != null
                    && (call.want().startsWith("throws.") || call.want().startsWith("-"));
            due(title + ": " + call.told() + " is told as refused", refusal, true);
        }
        unchanged(title, setup, calls);
    }

    /** Makes each call of a text on a new object behind the setup: it changes nothing. */
    void unchanged(String title, String setup, String calls) {
        run(title, setup);
        String state = State.after(setup);
        for (Call call : Call.read(calls)) {
            run(title, setup + "\n" + call.told());
            String then = State.after(setup + "\n" + call.told());
            due(title + ": what is changed by " + call.told(), firstUnlike(then, state), "nothing");
        }
    }

    void due(String what, Object got, Object want) {
        checks++;
        if (!String.valueOf(got).equals(String.valueOf(want))) {
            wrong++;
            System.out.println(what + " answered " + got + ", due is " + want);
        }
    }

    /** Tells how it went, and ends the program with exit code 1 if an answer was not the due one. */
    void end(String name) {
        System.out.println(name + ": " + runs + " runs, " + checks + " checks, " + wrong + " wrong");
        if (wrong != 0) {
            System.exit(1);
        }
    }

    private void check(String title, Call call, String got) {
        if (call.want() != null) {
            due(title + ": " + call.told(), got, call.want());
        } else if (got.startsWith("throws.") || got.startsWith("-")) {
            due(title + ": " + call.told(), got, "no refusal and no exception");
        }
    }

    private static String firstUnlike(String got, String want) {
        String[] gotLines = got.split("\n");
        String[] wantLines = want.split("\n");
        for (int i = 0; i < Math.min(gotLines.length, wantLines.length); i++) {
            if (!gotLines[i].equals(wantLines[i])) {
                return gotLines[i] + ", which was " + wantLines[i];
            }
        }
        return gotLines.length == wantLines.length ? "nothing" : "how many rows there are";
    }
}
