/**
 * Tells all that can be learnt of the object that a text of calls makes, by what it answers to
 * further calls. As these change it, each part is told of an object of its own.
 */
final class State {
    private static final int MOST_CALLS = 512;
    private static final int MOST_SETS = 20;
    private static final int PARTS = 7;

    private final MapRevisions map = new MapRevisions();
    private final StringBuilder told;
    private int calls = 0;

    private State(StringBuilder told) {
        this.told = told;
    }

    static String after(String text) {
        StringBuilder told = new StringBuilder();
        for (int part = 0; part < PARTS; part++) {
            State state = new State(told);
            for (Call call : Call.read(text)) {
                state.answer(call.name(), call.arguments());
            }
            state.tell(part);
        }
        return told.toString();
    }

    private void tell(int part) {
        switch (part) {
            case 0 -> tellThings();
            case 1 -> tellVersions();
            case 2 -> tellMinutes();
            case 3 -> tellSets();
            case 4 -> tellDraft();
            case 5 -> tellCopy();
            default -> tellUndoing();
        }
    }

    private void tellThings() {
        ask("things");
        ask("isTrue");
        for (int kind = MapRevisions.POINT; kind <= MapRevisions.RELATION; kind++) {
            ask("inBox", 0, 0, 99, 99, kind);
        }
        for (int thing = 0; thing < count(); thing++) {
            ask("latest", thing);
            ask("isThere", thing);
            ask("whereIs", thing);
            ask("members", thing);
            ask("usedBy", thing);
            ask("inCopy", thing);
        }
    }

    private void tellVersions() {
        for (int thing = 0; thing < count(); thing++) {
            int latest = number("latest", thing);
            for (int version = 1; version <= latest; version++) {
                ask("setOf", thing, version);
            }
        }
    }

    private void tellMinutes() {
        for (int thing = 0; thing < Math.min(count(), 8); thing++) {
            for (int minute = 0; minute < 15; minute++) {
                ask("versionAt", thing, minute);
            }
        }
        ask("pass", 1);
    }

    private void tellSets() {
        for (int set = 0; set <= MOST_SETS; set++) {
            ask("close", set);
        }
        ask("open");
    }

    /** What is in the draft is seen by what the things use that are made and changed with it. */
    private void tellDraft() {
        for (int set = 0; set < MOST_SETS; set++) {
            ask("make", set, MapRevisions.RELATION);
        }
        for (int thing = 0; thing < count(); thing++) {
            ask("change", 0, thing, number("latest", thing));
            ask("usedBy", thing);
            ask("members", thing);
        }
        ask("wipe");
    }

    private void tellCopy() {
        ask("pass", 1);
        for (int minute = 0; minute < 15; minute++) {
            ask("take", 1);
        }
        for (int thing = 0; thing < count(); thing++) {
            ask("inCopy", thing);
        }
        ask("take", 100);
        ask("isTrue");
        ask("pass", 100);
    }

    /** What versions say that are no longer the latest is seen when the sets behind them are undone. */
    private void tellUndoing() {
        String opened = answer("open");
        int undoing = opened.startsWith("throws.") ? MOST_SETS - 1 : Integer.parseInt(opened);
        for (int set = 0; set < MOST_SETS; set++) {
            if (set != undoing) {
                ask("close", set);
            }
        }
        for (int set = MOST_SETS - 1; set >= 0; set--) {
            ask("undo", undoing, set);
        }
        for (int thing = 0; thing < count(); thing++) {
            ask("whereIs", thing);
            ask("members", thing);
            ask("usedBy", thing);
            ask("latest", thing);
        }
    }

    private int count() {
        return map.things();
    }

    private int number(String name, int... arguments) {
        return Integer.parseInt(answer(name, arguments));
    }

    private void ask(String name, int... arguments) {
        told.append(name);
        for (int argument : arguments) {
            told.append(' ').append(argument);
        }
        told.append(" -> ").append(answer(name, arguments)).append('\n');
    }

    private String answer(String name, int... arguments) {
        calls++;
        if (calls > MOST_CALLS) {
            throw new Error("more than " + MOST_CALLS + " calls of one object");
        }
        return Calls.answer(map, name, arguments);
    }
}
