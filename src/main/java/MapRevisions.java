import java.util.ArrayList;
import java.util.Arrays;
import java.util.NoSuchElementException;

/**
 * A store of a map that many edit: points, ways and relations with versions, sets of changes,
 * and a copy that follows minute by minute.
 *
 * <p>Several things at once are held as a long with the bit of each thing's number set: there are
 * at most 40.
 */
public final class MapRevisions {
    public static final int POINT = 0, WAY = 1, RELATION = 2;
    public static final int GONE = -1, OLD = -2, UNLIKE = -3, RING = -4, USED = -5;

    private static final int ALLOWED = 0;
    private static final int MOST_SETS = 20;
    private static final int MOST_THINGS = 40;
    private static final int MOST_MEMBERS = 6;
    private static final int FEWEST_OF_WAY = 2;
    private static final int FEWEST_OF_RELATION = 1;
    private static final int LAST_PLACE = 99;
    private static final int MOST_MINUTES = 100;
    private static final int LAST_MINUTE = 5000;
    // Above what 512 calls can make: one each, and by undoing one for each closed set and thing.
    private static final int MOST_VERSIONS = 2048;

    /** What a version says; it never changes, so versions that are alike share it. */
    private static final class Content {
        final boolean there;
        final int x;
        final int y;
        final int[] members;

        Content(boolean there, int x, int y, int[] members) {
            this.there = there;
            this.x = x;
            this.y = y;
            this.members = members;
        }
    }

    private static final class Version {
        final Version before;
        final int number;
        final int set;
        final int minute;
        final Content content;
        boolean hidden;

        Version(Version before, int set, int minute, Content content) {
            this.before = before;
            this.number = before == null ? 1 : before.number + 1;
            this.set = set;
            this.minute = minute;
            this.content = content;
            this.hidden = false;
        }
    }

    private static final class Thing {
        final int kind;
        Version last;

        Thing(int kind, Version first) {
            this.kind = kind;
            this.last = first;
        }
    }

    private final int[] none = new int[0];
    private final Content gone = new Content(false, 0, 0, none);
    private final ArrayList<Thing> all = new ArrayList<Thing>();
    private final boolean[] closed = new boolean[MOST_SETS];
    private final int[] versionsOf = new int[MOST_SETS];
    private final int[] draft = new int[MOST_MEMBERS];
    private int sets = 0;
    private int drafted = 0;
    private int versions = 0;
    private int now = 0;
    private int copyMinute = 0;

    public MapRevisions() {
    }

    // ---- sets and the draft

    public int open() throws IllegalStateException {
        if (sets >= MOST_SETS) {
            throw new IllegalStateException("there are 20 sets");
        }
        sets++;
        return sets - 1;
    }

    public int close(int set) throws IndexOutOfBoundsException, IllegalStateException {
        needSet(set);
        if (closed[set]) {
            throw new IllegalStateException("the set is closed");
        }
        closed[set] = true;
        return versionsOf[set];
    }

    public int refer(int thing) throws IndexOutOfBoundsException, IllegalStateException {
        needThing(thing);
        if (drafted >= MOST_MEMBERS) {
            throw new IllegalStateException("the draft has 6 things");
        }
        draft[drafted] = thing;
        drafted++;
        return drafted;
    }

    public int wipe() {
        int had = drafted;
        drafted = 0;
        return had;
    }

    // ---- making versions

    public int point(int set, int x, int y)
            throws IndexOutOfBoundsException, IllegalArgumentException, IllegalStateException {
        needSet(set);
        needPlace(x, y);
        needOpen(set);
        needRoomForThing();
        return addThing(set, POINT, contentOfPoint(x, y));
    }

    public int make(int set, int kind)
            throws IndexOutOfBoundsException, IllegalArgumentException, IllegalStateException {
        needSet(set);
        if (kind != WAY && kind != RELATION) {
            throw new IllegalArgumentException("the kind is neither WAY nor RELATION");
        }
        needOpen(set);
        needRoomForThing();
        Content next = contentOfDraft();
        if (!isRowFor(kind, next.members)) {
            return UNLIKE;
        }
        return addThing(set, kind, next);
    }

    public int move(int set, int thing, int version, int x, int y)
            throws IndexOutOfBoundsException, IllegalArgumentException, IllegalStateException {
        needSet(set);
        needThing(thing);
        if (all.get(thing).kind != POINT) {
            throw new IllegalArgumentException("the thing is no point");
        }
        needPlace(x, y);
        needOpen(set);
        return edit(set, thing, version, contentOfPoint(x, y));
    }

    public int change(int set, int thing, int version)
            throws IndexOutOfBoundsException, IllegalArgumentException, IllegalStateException {
        needSet(set);
        needThing(thing);
        if (all.get(thing).kind == POINT) {
            throw new IllegalArgumentException("the thing is a point");
        }
        needOpen(set);
        return edit(set, thing, version, contentOfDraft());
    }

    public int delete(int set, int thing, int version)
            throws IndexOutOfBoundsException, IllegalStateException {
        needSet(set);
        needThing(thing);
        needOpen(set);
        return edit(set, thing, version, gone);
    }

    public int undo(int set, int other) throws IndexOutOfBoundsException, IllegalStateException {
        needSet(set);
        needSet(other);
        needOpen(set);
        if (!closed[other]) {
            throw new IllegalStateException("the set to undo is open");
        }
        int left = 0;
        for (int thing = all.size() - 1; thing >= 0; thing--) {
            if (hasVersionOf(thing, other) && !undoThing(set, thing, other)) {
                left++;
            }
        }
        return left;
    }

    // ---- things

    public int things() {
        return all.size();
    }

    public int latest(int thing) throws IndexOutOfBoundsException {
        needThing(thing);
        return all.get(thing).last.number;
    }

    public boolean isThere(int thing) throws IndexOutOfBoundsException {
        needThing(thing);
        return isNow(thing);
    }

    public int whereIs(int thing) throws IndexOutOfBoundsException, java.util.NoSuchElementException {
        needThing(thing);
        Content content = all.get(thing).last.content;
        if (all.get(thing).kind != POINT || !content.there) {
            throw new NoSuchElementException("the thing is no point, or is gone");
        }
        return 100 * content.x + content.y;
    }

    public int members(int thing) throws IndexOutOfBoundsException {
        needThing(thing);
        return all.get(thing).last.content.members.length;
    }

    public int usedBy(int thing) throws IndexOutOfBoundsException {
        needThing(thing);
        return Long.bitCount(usersOf(bit(thing)));
    }

    // ---- versions

    public int hide(int thing, int version) throws IndexOutOfBoundsException, IllegalStateException {
        needThing(thing);
        Version found = needVersion(thing, version);
        if (version == all.get(thing).last.number || found.hidden) {
            throw new IllegalStateException("the version is the latest one, or hidden");
        }
        found.hidden = true;
        return countShown(thing);
    }

    public int setOf(int thing, int version)
            throws IndexOutOfBoundsException, java.util.NoSuchElementException {
        needThing(thing);
        Version found = needVersion(thing, version);
        if (found.hidden) {
            throw new NoSuchElementException("the version is hidden");
        }
        return found.set;
    }

    public int versionAt(int thing, int minute)
            throws IndexOutOfBoundsException, IllegalArgumentException {
        needThing(thing);
        if (minute < 0 || minute > now) {
            throw new IllegalArgumentException("the minute is out of range");
        }
        return lastMadeBefore(thing, minute + 1);
    }

    // ---- drawing

    public int inBox(int x, int y, int toX, int toY, int kind) throws IllegalArgumentException {
        needPlace(x, y);
        needPlace(toX, toY);
        if (toX < x || toY < y || kind < POINT || kind > RELATION) {
            throw new IllegalArgumentException("the box or the kind is out of range");
        }
        long inside = pointsWithin(x, y, toX, toY);
        long ways = usersOf(inside) & thingsOf(WAY);
        long points = inside | membersOf(ways);
        long relations = usersOf(points | ways) & thingsOf(RELATION);
        if (kind == POINT) {
            return Long.bitCount(points);
        }
        return Long.bitCount(kind == WAY ? ways : relations);
    }

    // ---- minutes and the copy

    public int pass(int minutes) throws IllegalArgumentException, IllegalStateException {
        needMinutes(minutes);
        if (now + minutes > LAST_MINUTE) {
            throw new IllegalStateException("it would be later than minute 5000");
        }
        now += minutes;
        return now;
    }

    public int take(int minutes) throws IllegalArgumentException {
        needMinutes(minutes);
        int until = Math.min(copyMinute + minutes, now);
        int taken = 0;
        for (int thing = 0; thing < all.size(); thing++) {
            // Versions are numbered without gaps, in the order of their minutes.
            taken += lastMadeBefore(thing, until) - lastMadeBefore(thing, copyMinute);
        }
        copyMinute = until;
        return taken;
    }

    public int inCopy(int thing) throws IndexOutOfBoundsException {
        needThing(thing);
        return lastMadeBefore(thing, copyMinute);
    }

    public boolean isTrue() {
        for (int thing = 0; thing < all.size(); thing++) {
            if (all.get(thing).last.minute >= copyMinute) {
                return false;
            }
        }
        return true;
    }

    // ---- what a call needs

    private void needSet(int set) {
        if (set < 0 || set >= sets) {
            throw new IndexOutOfBoundsException("there is no such set");
        }
    }

    private void needThing(int thing) {
        if (!isKnown(thing)) {
            throw new IndexOutOfBoundsException("there is no such thing");
        }
    }

    private Version needVersion(int thing, int number) {
        Version version = all.get(thing).last;
        while (version != null && version.number != number) {
            version = version.before;
        }
        if (version == null) {
            throw new IndexOutOfBoundsException("there is no such version");
        }
        return version;
    }

    private void needPlace(int x, int y) {
        if (x < 0 || x > LAST_PLACE || y < 0 || y > LAST_PLACE) {
            throw new IllegalArgumentException("x or y is out of range");
        }
    }

    private void needMinutes(int minutes) {
        if (minutes < 1 || minutes > MOST_MINUTES) {
            throw new IllegalArgumentException("the minutes are out of range");
        }
    }

    private void needOpen(int set) {
        if (closed[set]) {
            throw new IllegalStateException("the set is closed");
        }
        // A call makes at most one version of each thing; no call up to the 512th comes so far.
        if (versions > MOST_VERSIONS - MOST_THINGS) {
            throw new IllegalStateException("there is no room for versions");
        }
    }

    private void needRoomForThing() {
        if (all.size() >= MOST_THINGS) {
            throw new IllegalStateException("there are 40 things");
        }
    }

    // ---- making things and versions

    private Content contentOfPoint(int x, int y) {
        return new Content(true, x, y, none);
    }

    private Content contentOfDraft() {
        return new Content(true, 0, 0, Arrays.copyOf(draft, drafted));
    }

    private int addThing(int set, int kind, Content content) {
        all.add(new Thing(kind, newVersion(null, set, content)));
        return all.size() - 1;
    }

    private int addVersion(int set, Thing thing, Content content) {
        thing.last = newVersion(thing.last, set, content);
        return thing.last.number;
    }

    private Version newVersion(Version before, int set, Content content) {
        versions++;
        versionsOf[set]++;
        return new Version(before, set, now, content);
    }

    private int edit(int set, int thing, int version, Content next) {
        Thing edited = all.get(thing);
        if (!edited.last.content.there) {
            return GONE;
        }
        if (edited.last.number != version) {
            return OLD;
        }
        int refusal = refusalOf(thing, next);
        return refusal != ALLOWED ? refusal : addVersion(set, edited, next);
    }

    private int refusalOf(int thing, Content next) {
        if (!next.there) {
            return usersOf(bit(thing)) != 0L ? USED : ALLOWED;
        }
        int kind = all.get(thing).kind;
        if (kind == POINT) {
            return ALLOWED;
        }
        if (!isRowFor(kind, next.members)) {
            return UNLIKE;
        }
        return leadsTo(next.members, thing) ? RING : ALLOWED;
    }

    private boolean isRowFor(int kind, int[] row) {
        if (row.length < (kind == WAY ? FEWEST_OF_WAY : FEWEST_OF_RELATION)) {
            return false;
        }
        for (int member : row) {
            if (!isNow(member) || kind == WAY && all.get(member).kind != POINT) {
                return false;
            }
        }
        return true;
    }

    private boolean leadsTo(int[] row, int thing) {
        long reached = bitsOf(row);
        // A path that visits no thing twice has fewer steps than there are things.
        for (int step = 0; step < all.size(); step++) {
            long further = reached | membersOf(reached);
            if (further == reached) {
                break;
            }
            reached = further;
        }
        return has(reached, thing);
    }

    // ---- undoing

    private boolean hasVersionOf(int thing, int set) {
        Version version = all.get(thing).last;
        while (version != null && version.set != set) {
            version = version.before;
        }
        return version != null;
    }

    private boolean undoThing(int set, int thing, int other) {
        Thing undone = all.get(thing);
        if (undone.last.set != other) {
            return false;
        }
        Content earlier = contentAheadOf(undone.last, other);
        if (refusalOf(thing, earlier) != ALLOWED) {
            return false;
        }
        addVersion(set, undone, earlier);
        return true;
    }

    private Content contentAheadOf(Version last, int other) {
        Version version = last.before;
        while (version != null && version.set == other) {
            version = version.before;
        }
        return version == null ? gone : version.content;
    }

    // ---- things and their versions

    private boolean isKnown(int thing) {
        return thing >= 0 && thing < all.size();
    }

    private boolean isNow(int thing) {
        return isKnown(thing) && all.get(thing).last.content.there;
    }

    /** Answers 0 if there is none. */
    private int lastMadeBefore(int thing, int minute) {
        Version version = all.get(thing).last;
        while (version != null && version.minute >= minute) {
            version = version.before;
        }
        return version == null ? 0 : version.number;
    }

    private int countShown(int thing) {
        int shown = 0;
        for (Version version = all.get(thing).last; version != null; version = version.before) {
            if (!version.hidden) {
                shown++;
            }
        }
        return shown;
    }

    // ---- several things at once

    private static long bit(int thing) {
        return 1L << thing;
    }

    private static boolean has(long several, int thing) {
        return (several & bit(thing)) != 0L;
    }

    private static long bitsOf(int[] row) {
        long several = 0L;
        for (int member : row) {
            several |= bit(member);
        }
        return several;
    }

    private long thingsOf(int kind) {
        long several = 0L;
        for (int thing = 0; thing < all.size(); thing++) {
            if (all.get(thing).kind == kind) {
                several |= bit(thing);
            }
        }
        return several;
    }

    /** A thing that is gone has no members, so it uses none. */
    private long usersOf(long used) {
        long several = 0L;
        for (int thing = 0; thing < all.size(); thing++) {
            if ((bitsOf(all.get(thing).last.content.members) & used) != 0L) {
                several |= bit(thing);
            }
        }
        return several;
    }

    private long membersOf(long users) {
        long several = 0L;
        for (int thing = 0; thing < all.size(); thing++) {
            if (has(users, thing)) {
                several |= bitsOf(all.get(thing).last.content.members);
            }
        }
        return several;
    }

    private long pointsWithin(int x, int y, int toX, int toY) {
        long several = 0L;
        for (int thing = 0; thing < all.size(); thing++) {
            Content content = all.get(thing).last.content;
            if (all.get(thing).kind == POINT && content.there
                    && content.x >= x && content.x <= toX && content.y >= y && content.y <= toY) {
                several |= bit(thing);
            }
        }
        return several;
    }
}
