import java.util.ArrayList;
import java.util.HashSet;
import java.util.List;
import java.util.Set;
import java.util.TreeSet;
import java.util.stream.Collectors;
import java.util.stream.IntStream;

/**
 * The document once more, as plainly as it can be said: one list of all versions ever made, from
 * which every question is answered anew. Slow, and held in another way than the class.
 */
final class Model {
    private static final String INDEX = "throws.IndexOutOfBoundsException";
    private static final String ARGUMENT = "throws.IllegalArgumentException";
    private static final String STATE = "throws.IllegalStateException";
    private static final String ELEMENT = "throws.NoSuchElementException";

    /** One version; members is null for a point and for what is gone, x is -1 but for a point. */
    private record Made(int thing, int number, int set, int minute, boolean there, int x, int y,
            List<Integer> members) {
        List<Integer> row() {
            return members == null ? List.of() : members;
        }
    }

    private final List<Made> log = new ArrayList<>();
    private final Set<String> hidden = new HashSet<>();
    private final List<Integer> kinds = new ArrayList<>();
    private final Set<Integer> closedSets = new HashSet<>();
    private final List<Integer> draft = new ArrayList<>();
    private int setCount = 0;
    private int minute = 0;
    private int copy = 0;

    String answer(String name, int... a) {
        return switch (name) {
            case "open" -> setCount == 20 ? STATE : "" + setCount++;
            case "close" -> close(a[0]);
            case "refer" -> refer(a[0]);
            case "wipe" -> wipe();
            case "point" -> point(a[0], a[1], a[2]);
            case "make" -> make(a[0], a[1]);
            case "move" -> move(a[0], a[1], a[2], a[3], a[4]);
            case "change" -> change(a[0], a[1], a[2]);
            case "delete" -> delete(a[0], a[1], a[2]);
            case "undo" -> undo(a[0], a[1]);
            case "things" -> "" + kinds.size();
            case "isTrue" -> "" + IntStream.range(0, kinds.size())
                    .allMatch(t -> copied(t) == last(t).number);
            case "inBox" -> inBox(a[0], a[1], a[2], a[3], a[4]);
            case "pass" -> pass(a[0]);
            case "take" -> take(a[0]);
            default -> noThing(a[0]) ? INDEX : ofThing(name, a[0], a.length > 1 ? a[1] : 0);
        };
    }

    private String ofThing(String name, int t, int b) {
        return switch (name) {
            case "latest" -> "" + last(t).number;
            case "isThere" -> "" + last(t).there;
            case "whereIs" -> last(t).x < 0 ? ELEMENT : "" + (100 * last(t).x + last(t).y);
            case "members" -> "" + last(t).row().size();
            case "usedBy" -> "" + users(t).size();
            case "hide" -> hide(t, b);
            case "setOf" -> noVersion(t, b) ? INDEX
                    : hidden.contains(t + "/" + b) ? ELEMENT : "" + of(t).get(b - 1).set;
            case "versionAt" -> b < 0 || b > minute ? ARGUMENT
                    : "" + of(t).stream().filter(v -> v.minute <= b).count();
            case "inCopy" -> "" + copied(t);
            default -> throw new Error(name);
        };
    }

    // ---- what there is

    private boolean noSet(int s) {
        return s < 0 || s >= setCount;
    }

    private boolean noThing(int t) {
        return t < 0 || t >= kinds.size();
    }

    private boolean noVersion(int t, int v) {
        return v < 1 || v > of(t).size();
    }

    private static boolean off(int place) {
        return place < 0 || place > 99;
    }

    private List<Made> of(int t) {
        return log.stream().filter(v -> v.thing == t).collect(Collectors.toList());
    }

    private Made last(int t) {
        return of(t).get(of(t).size() - 1);
    }

    private Set<Integer> users(int t) {
        Set<Integer> found = new TreeSet<>();
        for (int u = 0; u < kinds.size(); u++) {
            if (last(u).there && last(u).row().contains(t)) {
                found.add(u);
            }
        }
        return found;
    }

    private long copied(int t) {
        return of(t).stream().filter(v -> v.minute < copy).count();
    }

    // ---- sets and the draft

    private String close(int s) {
        if (noSet(s)) {
            return INDEX;
        }
        return closedSets.add(s) ? "" + log.stream().filter(v -> v.set == s).count() : STATE;
    }

    private String refer(int t) {
        if (noThing(t)) {
            return INDEX;
        }
        if (draft.size() == 6) {
            return STATE;
        }
        draft.add(t);
        return "" + draft.size();
    }

    private String wipe() {
        String had = "" + draft.size();
        draft.clear();
        return had;
    }

    // ---- making versions

    private String point(int s, int x, int y) {
        if (noSet(s)) {
            return INDEX;
        }
        if (off(x) || off(y)) {
            return ARGUMENT;
        }
        if (closedSets.contains(s) || kinds.size() == 40) {
            return STATE;
        }
        kinds.add(0);
        log.add(new Made(kinds.size() - 1, 1, s, minute, true, x, y, null));
        return "" + (kinds.size() - 1);
    }

    private String make(int s, int kind) {
        if (noSet(s)) {
            return INDEX;
        }
        if (kind != 1 && kind != 2) {
            return ARGUMENT;
        }
        if (closedSets.contains(s) || kinds.size() == 40) {
            return STATE;
        }
        if (unlike(kind, draft)) {
            return "-3";
        }
        kinds.add(kind);
        log.add(new Made(kinds.size() - 1, 1, s, minute, true, -1, -1, List.copyOf(draft)));
        return "" + (kinds.size() - 1);
    }

    private boolean unlike(int kind, List<Integer> row) {
        return row.size() < (kind == 1 ? 2 : 1)
                || row.stream().anyMatch(t -> !last(t).there)
                || kind == 1 && row.stream().anyMatch(t -> kinds.get(t) != 0);
    }

    private boolean reaches(int from, int goal, Set<Integer> seen) {
        if (from == goal) {
            return true;
        }
        return seen.add(from) && last(from).row().stream().anyMatch(t -> reaches(t, goal, seen));
    }

    private boolean ring(int t, List<Integer> row) {
        return row.stream().anyMatch(m -> reaches(m, t, new HashSet<>()));
    }

    private String early(int t, int version) {
        if (!last(t).there) {
            return "-1";
        }
        return last(t).number != version ? "-2" : null;
    }

    private String add(int s, int t, boolean there, int x, int y, List<Integer> row) {
        log.add(new Made(t, last(t).number + 1, s, minute, there, x, y, row));
        return "" + last(t).number;
    }

    private String move(int s, int t, int version, int x, int y) {
        if (noSet(s) || noThing(t)) {
            return INDEX;
        }
        if (kinds.get(t) != 0 || off(x) || off(y)) {
            return ARGUMENT;
        }
        if (closedSets.contains(s)) {
            return STATE;
        }
        String refusal = early(t, version);
        return refusal != null ? refusal : add(s, t, true, x, y, null);
    }

    private String change(int s, int t, int version) {
        if (noSet(s) || noThing(t)) {
            return INDEX;
        }
        if (kinds.get(t) == 0) {
            return ARGUMENT;
        }
        if (closedSets.contains(s)) {
            return STATE;
        }
        String refusal = early(t, version);
        if (refusal != null) {
            return refusal;
        }
        if (unlike(kinds.get(t), draft)) {
            return "-3";
        }
        return ring(t, draft) ? "-4" : add(s, t, true, -1, -1, List.copyOf(draft));
    }

    private String delete(int s, int t, int version) {
        if (noSet(s) || noThing(t)) {
            return INDEX;
        }
        if (closedSets.contains(s)) {
            return STATE;
        }
        String refusal = early(t, version);
        if (refusal != null) {
            return refusal;
        }
        return users(t).isEmpty() ? add(s, t, false, -1, -1, null) : "-5";
    }

    private String undo(int s, int other) {
        if (noSet(s) || noSet(other)) {
            return INDEX;
        }
        if (closedSets.contains(s) || !closedSets.contains(other)) {
            return STATE;
        }
        int left = 0;
        for (int t = kinds.size() - 1; t >= 0; t--) {
            if (of(t).stream().anyMatch(v -> v.set == other) && !undone(s, t, other)) {
                left++;
            }
        }
        return "" + left;
    }

    private boolean undone(int s, int t, int other) {
        if (last(t).set != other) {
            return false;
        }
        List<Made> others = of(t).stream().filter(v -> v.set != other).collect(Collectors.toList());
        Made like = others.isEmpty() ? null : others.get(others.size() - 1);
        if (like == null || !like.there) {
            if (!users(t).isEmpty()) {
                return false;
            }
            add(s, t, false, -1, -1, null);
            return true;
        }
        if (kinds.get(t) != 0 && (unlike(kinds.get(t), like.members) || ring(t, like.members))) {
            return false;
        }
        add(s, t, true, like.x, like.y, like.members);
        return true;
    }

    // ---- versions, drawing and the copy

    private String hide(int t, int version) {
        if (noVersion(t, version)) {
            return INDEX;
        }
        if (version == last(t).number || !hidden.add(t + "/" + version)) {
            return STATE;
        }
        return "" + of(t).stream().filter(v -> !hidden.contains(t + "/" + v.number)).count();
    }

    private String inBox(int x, int y, int toX, int toY, int kind) {
        if (off(x) || off(y) || off(toX) || off(toY) || toX < x || toY < y || kind < 0 || kind > 2) {
            return ARGUMENT;
        }
        Set<Integer> points = new TreeSet<>();
        for (int t = 0; t < kinds.size(); t++) {
            Made now = last(t);
            if (now.x >= x && now.x <= toX && now.y >= y && now.y <= toY) {
                points.add(t);
            }
        }
        Set<Integer> ways = usersOf(points, 1);
        ways.forEach(way -> points.addAll(last(way).row()));
        Set<Integer> relations = usersOf(points, 2);
        relations.addAll(usersOf(ways, 2));
        return "" + (kind == 0 ? points : kind == 1 ? ways : relations).size();
    }

    private Set<Integer> usersOf(Set<Integer> used, int kind) {
        Set<Integer> found = new TreeSet<>();
        used.forEach(t -> found.addAll(users(t)));
        found.removeIf(t -> kinds.get(t) != kind);
        return found;
    }

    private String pass(int minutes) {
        if (minutes < 1 || minutes > 100) {
            return ARGUMENT;
        }
        if (minute + minutes > 5000) {
            return STATE;
        }
        minute += minutes;
        return "" + minute;
    }

    private String take(int minutes) {
        if (minutes < 1 || minutes > 100) {
            return ARGUMENT;
        }
        int from = copy;
        copy = Math.min(copy + minutes, minute);
        return "" + log.stream().filter(v -> v.minute >= from && v.minute < copy).count();
    }
}
