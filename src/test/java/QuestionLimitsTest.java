/**
 * Each call's ranges: the last that is taken and the first that is refused, at both ends; which
 * exception it is where several apply; and that nothing has changed behind it. Promises 12 to 25.
 */
public final class QuestionLimitsTest {
    /**
     * Thing 0 is a point with three versions, the first one hidden, 1 a point, 2 a way, 3 a relation,
     * 4 a point that is gone; the minute is 7, the copy's own one 3; set 1 is closed.
     */
    private static final String SOME = """
            3x open; point 0 10 10; point 1 20 20; refer 0; refer 1; make 0 WAY -> 2; make 1 RELATION -> 3
            pass 2; move 0 0 1 11 11; point 2 30 30; take 100; pass 2; move 2 0 2 12 12; delete 2 4 1; close 1
            hide 0 1; take 1; pass 3
            """;
    private static final String FULL = "open; open; close 1; 40x point 0 1 1\n";
    private static final String[] OF_THINGS = {"latest", "isThere", "whereIs", "members", "usedBy", "inCopy"};

    public static void main(String[] args) {
        Script script = new Script();
        noSuchThing(script);
        things(script);
        ofThings(script);
        whereIs(script);
        usedBy(script);
        hide(script);
        setOf(script);
        versionAt(script);
        boxEdges(script);
        boxRanges(script);
        boxContents(script);
        pass(script);
        take(script);
        copy(script);
        script.end("QuestionLimitsTest");
    }

    private static void noSuchThing(Script script) {
        for (String name : OF_THINGS) {
            for (String thing : new String[] {"5", "-1", "40", "MAX", "MIN"}) {
                script.refused(name + ", no such thing", SOME, name + " " + thing + " -> NO_INDEX");
            }
            script.refused(name + ", no such thing of 40", FULL, name + " 40 -> NO_INDEX; " + name + " -1 -> NO_INDEX");
            script.refused(name + ", there are no things", "open; pass 1", name + " 0 -> NO_INDEX");
        }
    }

    private static void things(Script script) {
        script.run("promise 12, none, one and 40", "things -> 0; open; things -> 0; point 0 1 1; things -> 1; 39x point 0 1 1; things -> 40");
        script.run("promise 12, those that are gone too", FULL + "delete 0 0 1; delete 0 39 1; things -> 40");
        script.run("promise 12, all are gone", "open; point 0 1 1; delete 0 0 1; things -> 1");
    }

    private static void ofThings(Script script) {
        script.unchanged("promises 13 to 17 and 24, the first thing and the last", SOME, """
            latest 0 -> 3; latest 4 -> 2; isThere 0 -> true; isThere 4 -> false; whereIs 0 -> 1212
            members 0 -> 0; members 2 -> 2; members 3 -> 2; members 4 -> 0; usedBy 0 -> 2; usedBy 4 -> 0
            inCopy 0 -> 2; inCopy 1 -> 1; inCopy 4 -> 1
            """);
        script.unchanged("promises 13 to 17 and 24, the last of 40 things", FULL, """
            latest 39 -> 1; isThere 39 -> true; whereIs 39 -> 101; members 39 -> 0; usedBy 39 -> 0; inCopy 39 -> 0
            """);
        script.run("promise 13, from 1 to many versions", "open; point 0 1 1; latest 0 -> 1; " + moves(200) + "latest 0 -> 201");
        script.run("promise 14, made, moved, gone and there again", """
            3x open; point 0 1 1; isThere 0 -> true; move 0 0 1 1 1; isThere 0 -> true; delete 1 0 2; isThere 0 -> false
            close 1; undo 2 1; isThere 0 -> true
            """);
        script.run("promise 16, 0 for what is gone", """
            3x open; point 0 1 1; 6x refer 0; make 0 WAY; make 0 RELATION; members 1 -> 6; members 2 -> 6
            delete 1 1 1; delete 1 2 1; members 1 -> 0; members 2 -> 0; close 1; undo 2 1; members 1 -> 6; members 2 -> 6
            """);
    }

    private static String moves(int times) {
        StringBuilder text = new StringBuilder();
        for (int version = 1; version <= times; version++) {
            text.append("move 0 0 ").append(version).append(" 2 2; ");
        }
        return text.toString();
    }

    private static void whereIs(Script script) {
        script.run("promise 15, the ends of x and y", """
            open; point 0 0 0; point 0 0 99; point 0 99 0; point 0 99 99
            whereIs 0 -> 0; whereIs 1 -> 99; whereIs 2 -> 9900; whereIs 3 -> 9999
            """);
        script.refused("promise 15, it is no point", SOME, "whereIs 2 -> NO_ELEMENT; whereIs 3 -> NO_ELEMENT");
        script.refused("promise 15, it is gone", SOME, "whereIs 4 -> NO_ELEMENT");
        script.refused("promise 15, it is no point and gone", SOME + "delete 0 3 1; delete 0 2 1", "whereIs 2 -> NO_ELEMENT; whereIs 3 -> NO_ELEMENT");
    }

    private static void usedBy(Script script) {
        StringBuilder users = new StringBuilder("open; point 0 1 1; 6x refer 0; usedBy 0 -> 0\n");
        for (int user = 1; user < 40; user++) {
            users.append("make 0 ").append(1 + user % 2).append(" -> ").append(user).append("; usedBy 0 -> ").append(user).append('\n');
        }
        script.run("promise 17, none to 39", users + "delete 0 39 1; usedBy 0 -> 38; delete 0 1 1; usedBy 0 -> 37");
    }

    private static void hide(Script script) {
        script.run("promise 18, the first version and the one ahead of the latest", SOME + "hide 0 2 -> 1");
        script.run("promise 18, all but the latest", "open; point 0 1 1; " + moves(3) + "hide 0 3 -> 3; hide 0 1 -> 2; hide 0 2 -> 1; hide 0 4 -> NO_STATE");
        script.run("promise 18, of a thing that is gone", SOME + "hide 4 1 -> 1; hide 4 2 -> NO_STATE");
        script.run("promise 18, of each kind", SOME + "change 0 2 1; change 0 3 1; hide 2 1 -> 1; hide 3 1 -> 1; members 2 -> 2");
        script.run("promise 18, the latest one no longer is", SOME + "hide 1 1 -> NO_STATE; move 0 1 1 5 5; hide 1 1 -> 1");
        script.refused("promise 18, no such thing", SOME, """
            hide 5 1 -> NO_INDEX; hide -1 1 -> NO_INDEX; hide 40 1 -> NO_INDEX; hide MAX 1 -> NO_INDEX; hide MIN 1 -> NO_INDEX
            """);
        script.refused("promise 18, no such version", SOME, """
            hide 0 0 -> NO_INDEX; hide 0 4 -> NO_INDEX; hide 0 -1 -> NO_INDEX; hide 0 MAX -> NO_INDEX; hide 0 MIN -> NO_INDEX
            hide 1 2 -> NO_INDEX; hide 4 3 -> NO_INDEX; hide 4 0 -> NO_INDEX
            """);
        script.refused("promise 18, it is the latest one", SOME, """
            hide 0 3 -> NO_STATE; hide 1 1 -> NO_STATE; hide 2 1 -> NO_STATE; hide 3 1 -> NO_STATE; hide 4 2 -> NO_STATE
            """);
        script.refused("promise 18, it is hidden", SOME + "hide 0 2", "hide 0 1 -> NO_STATE; hide 0 2 -> NO_STATE");
    }

    private static void setOf(Script script) {
        script.unchanged("promise 19, the first version and the last", SOME, """
            setOf 0 2 -> 0; setOf 0 3 -> 2; setOf 1 1 -> 1; setOf 4 1 -> 2; setOf 4 2 -> 2; setOf 3 1 -> 1
            """);
        script.run("promise 19, the first set and the last", "20x open; point 0 1 1; point 19 1 1; setOf 0 1 -> 0; setOf 1 1 -> 19");
        script.refused("promise 19, no such thing", SOME, """
            setOf 5 1 -> NO_INDEX; setOf -1 1 -> NO_INDEX; setOf 40 1 -> NO_INDEX; setOf MAX 1 -> NO_INDEX; setOf MIN 1 -> NO_INDEX
            """);
        script.refused("promise 19, no such version", SOME, """
            setOf 0 0 -> NO_INDEX; setOf 0 4 -> NO_INDEX; setOf 0 -1 -> NO_INDEX; setOf 0 MAX -> NO_INDEX; setOf 0 MIN -> NO_INDEX
            setOf 1 2 -> NO_INDEX; setOf 4 3 -> NO_INDEX; setOf 4 0 -> NO_INDEX
            """);
        script.refused("promise 19, it is hidden", SOME, "setOf 0 1 -> NO_ELEMENT");
        script.run("promise 19, hidden for good", SOME + "move 0 0 3 1 1; hide 0 3; setOf 0 3 -> NO_ELEMENT; setOf 0 1 -> NO_ELEMENT; setOf 0 4 -> 0");
    }

    private static void versionAt(Script script) {
        script.unchanged("promise 20, 0 to the minute of now", SOME, """
            versionAt 0 0 -> 1; versionAt 0 1 -> 1; versionAt 0 2 -> 2; versionAt 0 3 -> 2; versionAt 0 4 -> 3
            versionAt 0 7 -> 3; versionAt 4 0 -> 0; versionAt 4 1 -> 0; versionAt 4 2 -> 1; versionAt 4 4 -> 2; versionAt 4 7 -> 2
            """);
        script.refused("promise 20, minute is out of range", SOME, """
            versionAt 0 8 -> NO_ARGUMENT; versionAt 0 -1 -> NO_ARGUMENT; versionAt 0 MAX -> NO_ARGUMENT; versionAt 0 MIN -> NO_ARGUMENT
            versionAt 4 8 -> NO_ARGUMENT; versionAt 4 -1 -> NO_ARGUMENT
            """);
        script.refused("promise 20, no such thing", SOME, """
            versionAt 5 0 -> NO_INDEX; versionAt -1 0 -> NO_INDEX; versionAt 40 0 -> NO_INDEX; versionAt MAX 0 -> NO_INDEX
            versionAt MIN 0 -> NO_INDEX
            """);
        script.refused("promise 20, no such thing is ahead of minute", SOME, """
            versionAt 5 8 -> NO_INDEX; versionAt -1 -1 -> NO_INDEX; versionAt 5 MAX -> NO_INDEX; versionAt MIN MIN -> NO_INDEX
            """);
        script.run("promise 20, several versions of one minute", "open; point 0 1 1; pass 1; " + moves(9) + "versionAt 0 0 -> 1; versionAt 0 1 -> 10");
        script.run("promise 20, minute 5000", """
            open; 49x pass 100; pass 99; point 0 1 1; pass 1; move 0 0 1 2 2
            versionAt 0 4998 -> 0; versionAt 0 4999 -> 1; versionAt 0 5000 -> 2; versionAt 0 5001 -> NO_ARGUMENT
            """);
    }

    private static void boxEdges(Script script) {
        String point = "open; point 0 40 60\n";
        script.unchanged("promise 21, its edges are included", point, """
            inBox 40 60 40 60 POINT -> 1; inBox 40 0 99 99 POINT -> 1; inBox 0 0 40 99 POINT -> 1
            inBox 0 60 99 99 POINT -> 1; inBox 0 0 99 60 POINT -> 1
            """);
        script.unchanged("promise 21, but nothing next to them", point, """
            inBox 41 0 99 99 POINT -> 0; inBox 0 0 39 99 POINT -> 0; inBox 0 61 99 99 POINT -> 0; inBox 0 0 99 59 POINT -> 0
            inBox 41 61 41 61 POINT -> 0; inBox 39 59 39 59 POINT -> 0; inBox 40 61 40 61 POINT -> 0; inBox 41 60 41 60 POINT -> 0
            """);
        script.run("promise 21, none and all 40", """
            open; inBox 0 0 99 99 POINT -> 0; 20x point 0 0 0; 20x point 0 99 99; inBox 0 0 99 99 POINT -> 40
            inBox 0 0 98 99 POINT -> 20; inBox 1 0 99 99 POINT -> 20; inBox 1 1 98 98 POINT -> 0
            """);
    }

    private static void boxRanges(Script script) {
        script.unchanged("promise 21, the last that are taken", SOME, """
            inBox 0 0 0 0 POINT -> 0; inBox 99 99 99 99 POINT -> 0; inBox 0 0 99 99 POINT -> 2; inBox 0 99 0 99 WAY -> 0
            inBox 99 0 99 0 RELATION -> 0; inBox 12 12 12 12 POINT -> 2; inBox 0 0 99 99 WAY -> 1; inBox 0 0 99 99 RELATION -> 1
            """);
        script.refused("promise 21, x or y is out of range", SOME, """
            inBox -1 0 99 99 POINT -> NO_ARGUMENT; inBox 100 0 100 99 POINT -> NO_ARGUMENT; inBox 100 0 99 99 POINT -> NO_ARGUMENT
            inBox 0 -1 99 99 POINT -> NO_ARGUMENT; inBox 0 100 99 100 POINT -> NO_ARGUMENT; inBox 0 100 99 99 POINT -> NO_ARGUMENT
            inBox MIN 0 99 99 WAY -> NO_ARGUMENT; inBox MAX 0 MAX 99 WAY -> NO_ARGUMENT; inBox 0 MIN 99 99 WAY -> NO_ARGUMENT
            inBox 0 MAX 99 MAX WAY -> NO_ARGUMENT; inBox -1 -1 -1 -1 POINT -> NO_ARGUMENT
            """);
        script.refused("promise 21, toX or toY is out of range", SOME, """
            inBox 0 0 100 99 POINT -> NO_ARGUMENT; inBox 0 0 99 100 POINT -> NO_ARGUMENT; inBox 5 5 4 99 POINT -> NO_ARGUMENT
            inBox 5 5 99 4 POINT -> NO_ARGUMENT; inBox 99 0 98 99 POINT -> NO_ARGUMENT; inBox 0 99 99 98 POINT -> NO_ARGUMENT
            inBox 0 0 -1 99 POINT -> NO_ARGUMENT; inBox 0 0 99 -1 POINT -> NO_ARGUMENT; inBox 0 0 MAX 99 POINT -> NO_ARGUMENT
            inBox 0 0 99 MAX POINT -> NO_ARGUMENT; inBox 0 0 MIN 99 POINT -> NO_ARGUMENT; inBox 0 0 99 MIN POINT -> NO_ARGUMENT
            """);
        script.refused("promise 21, kind is out of range", SOME, """
            inBox 0 0 99 99 -1 -> NO_ARGUMENT; inBox 0 0 99 99 3 -> NO_ARGUMENT
            inBox 0 0 99 99 MAX -> NO_ARGUMENT; inBox 0 0 99 99 MIN -> NO_ARGUMENT
            """);
    }

    private static void boxContents(Script script) {
        String map = """
            open; point 0 10 10; point 0 50 50; point 0 90 90; refer 0; refer 1; make 0 WAY -> 3
            wipe; refer 1; refer 2; make 0 WAY -> 4; wipe
            """;
        script.run("promise 21, the ways that use one of these", map + """
            inBox 10 10 10 10 WAY -> 1; inBox 50 50 50 50 WAY -> 2; inBox 11 11 49 49 WAY -> 0
            """);
        script.run("promise 21, all points of these ways, but no ways of those", map + """
            inBox 10 10 10 10 POINT -> 2; inBox 50 50 50 50 POINT -> 3; inBox 11 11 49 49 POINT -> 0
            """);
        script.run("promise 21, relations of a point in it", map + "refer 0; make 0 RELATION; inBox 10 10 10 10 RELATION -> 1; inBox 90 90 90 90 RELATION -> 0");
        script.run("promise 21, relations of a way's other point", map + "refer 1; make 0 RELATION; inBox 10 10 10 10 RELATION -> 1");
        script.run("promise 21, relations of a way", map + "refer 3; make 0 RELATION; inBox 10 10 10 10 RELATION -> 1; inBox 90 90 90 90 RELATION -> 0");
        script.run("promise 21, no relations of other points and ways", map + "refer 2; refer 4; make 0 RELATION; inBox 10 10 10 10 RELATION -> 0");
        script.run("promise 21, no relations of relations", map + """
            refer 0; make 0 RELATION -> 5; wipe; refer 5; make 0 RELATION -> 6; inBox 0 0 99 99 RELATION -> 1
            """);
        script.run("promise 21, each once", map + """
            refer 0; refer 0; refer 3; refer 1; make 0 RELATION; inBox 0 0 99 99 POINT -> 3
            inBox 0 0 99 99 WAY -> 2; inBox 0 0 99 99 RELATION -> 1
            """);
        script.run("promise 21, all of them things that are there", map + """
            refer 3; make 0 RELATION -> 5; delete 0 5 1; inBox 0 0 99 99 RELATION -> 0; delete 0 3 1; delete 0 4 1; delete 0 1 1
            inBox 0 0 99 99 WAY -> 0; inBox 0 0 99 99 POINT -> 2; inBox 50 50 50 50 POINT -> 0
            """);
        script.run("promise 21, by the latest versions alone", map + """
            move 0 0 1 80 80; inBox 10 10 10 10 POINT -> 0; inBox 80 80 80 80 POINT -> 2; 2x refer 2; change 0 3 1
            inBox 80 80 80 80 POINT -> 1; inBox 80 80 80 80 WAY -> 0; inBox 90 90 90 90 WAY -> 2
            """);
    }

    private static void pass(Script script) {
        script.run("promise 22, 1 and 100 minutes", "pass 1 -> 1; pass 100 -> 101");
        script.run("promise 22, minute 5000 by 100, and by 1", "49x pass 100; pass 100 -> 5000");
        script.run("promise 22, minute 5000 by 100, and by 1", "49x pass 100; pass 99 -> 4999; pass 1 -> 5000");
        script.refused("promise 22, minutes is out of range", SOME, """
            pass 0 -> NO_ARGUMENT; pass 101 -> NO_ARGUMENT; pass -1 -> NO_ARGUMENT; pass MAX -> NO_ARGUMENT; pass MIN -> NO_ARGUMENT
            """);
        script.refused("promise 22, it would be later than 5000", "49x pass 100; pass 99", "pass 2 -> NO_STATE; pass 100 -> NO_STATE");
        script.refused("promise 22, it would be later than 5000 by 1", "50x pass 100", "pass 1 -> NO_STATE; pass 100 -> NO_STATE");
        script.refused("promise 22, out of range is ahead of too late", "50x pass 100", """
            pass 101 -> NO_ARGUMENT; pass 0 -> NO_ARGUMENT; pass -1 -> NO_ARGUMENT; pass MAX -> NO_ARGUMENT; pass MIN -> NO_ARGUMENT
            """);
    }

    private static void take(Script script) {
        script.run("promise 23, 1 and 100 minutes", """
            open; point 0 1 1; pass 1; point 0 1 1; pass 99; point 0 1 1; pass 1; point 0 1 1; take 1 -> 1; take 100 -> 2; take 100 -> 0
            """);
        script.run("promise 23, 99 and 100 of them", """
            open; pass 99; point 0 1 1; pass 1; point 0 1 1; pass 1; take 99 -> 0; take 1 -> 1; take 1 -> 1; take 1 -> 0
            """);
        script.run("promise 23, at most the minute of now", """
            open; point 0 1 1; take 100 -> 0; pass 1; point 0 1 1; take 100 -> 1; pass 1; point 0 1 1; take 100 -> 1; take 1 -> 0
            pass 1; take 1 -> 1
            """);
        script.run("promise 23, versions of all things", "open; 40x point 0 1 1; move 0 39 1 1 1; pass 1; take 1 -> 41");
        script.run("promise 23, several versions of a thing", "open; point 0 1 1; " + moves(20) + "pass 1; take 1 -> 21; take 1 -> 0");
        script.refused("promise 23, minutes is out of range", SOME, """
            take 0 -> NO_ARGUMENT; take 101 -> NO_ARGUMENT; take -1 -> NO_ARGUMENT; take MAX -> NO_ARGUMENT; take MIN -> NO_ARGUMENT
            """);
        script.refused("promise 23, minutes is out of range with nothing to take", "open; pass 5; take 5", "take 0 -> NO_ARGUMENT; take 101 -> NO_ARGUMENT");
        script.run("promise 23, at minute 5000", "open; 50x pass 100; point 0 1 1; 50x take 100 -> 0; take 1 -> 0; inCopy 0 -> 0");
    }

    private static void copy(Script script) {
        script.run("promises 24 and 25, a version of the copy's own minute is not in it", """
            open; point 0 1 1; inCopy 0 -> 0; isTrue -> false; pass 1; inCopy 0 -> 0; isTrue -> false
            take 1; inCopy 0 -> 1; isTrue -> true; move 0 0 1 1 1; inCopy 0 -> 1; isTrue -> false
            take 1; inCopy 0 -> 1; isTrue -> false; pass 1; take 1; inCopy 0 -> 2; isTrue -> true
            """);
        script.run("promise 24, the latest of a minute", "open; point 0 1 1; " + moves(5) + "pass 1; move 0 0 6 9 9; take 100; inCopy 0 -> 6");
        script.run("promise 24, a version that is gone", "open; point 0 1 1; delete 0 0 1; pass 1; take 1; inCopy 0 -> 2; isTrue -> true");
        script.run("promise 25, a thing that is gone counts", "open; point 0 1 1; pass 1; take 1; delete 0 0 1; isTrue -> false");
        script.run("promise 25, without things and without minutes", "isTrue -> true; open; isTrue -> true; pass 100; isTrue -> true");
        script.run("promise 25, though the copy's minute is behind", "open; point 0 1 1; pass 1; take 1; pass 100; isTrue -> true");
        script.run("promise 25, the last of 40 things", "open; 40x point 0 1 1; pass 1; take 1; isTrue -> true; move 0 39 1 1 1; isTrue -> false");
        script.run("promise 25, the first of 40 things", "open; 40x point 0 1 1; pass 1; take 1; isTrue -> true; move 0 0 1 1 1; isTrue -> false");
    }
}
