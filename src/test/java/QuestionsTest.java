/** Promises 12 to 21: things, versions and what is needed to draw a box. */
public final class QuestionsTest {
    private static final String POINT_WAY_RELATION = """
            open; point 0 12 34; refer 0; refer 0; refer 0; make 0 WAY -> 1
            wipe; refer 1; refer 0; make 0 RELATION -> 2
            """;

    public static void main(String[] args) {
        Script script = new Script();
        things(script);
        latest(script);
        isThere(script);
        whereIs(script);
        members(script);
        usedBy(script);
        hide(script);
        setOf(script);
        versionAt(script);
        boxEdges(script);
        boxContents(script);
        boxWrong(script);
        script.end("QuestionsTest");
    }

    private static void noSuchThing(Script script, String promise, String call, String more) {
        script.run(promise + ", no such thing", call + " 0" + more + " -> NO_INDEX\n" + POINT_WAY_RELATION
                + call + " 3" + more + " -> NO_INDEX; " + call + " -1" + more + " -> NO_INDEX\n"
                + call + " 40" + more + " -> NO_INDEX; " + call + " 2147483647" + more + " -> NO_INDEX\n"
                + call + " -2147483648" + more + " -> NO_INDEX\n");
    }

    private static void things(Script script) {
        script.run("promise 12, those that are gone too", """
            things -> 0
            open; things -> 0
            point 0 1 1; things -> 1
            refer 0; make 0 RELATION; things -> 2
            make 0 WAY -> UNLIKE; things -> 2
            delete 0 1 1; delete 0 0 1; things -> 2
            open; close 0; undo 1 0; things -> 2
            38x point 1 2 2
            things -> 40
            """);
    }

    private static void latest(Script script) {
        script.run("promise 13, its number", """
            open; point 0 1 1; latest 0 -> 1
            move 0 0 1 2 2; latest 0 -> 2
            move 0 0 1 2 2 -> OLD; latest 0 -> 2
            hide 0 1; latest 0 -> 2
            delete 0 0 2; latest 0 -> 3
            point 0 1 1; latest 1 -> 1; latest 0 -> 3
            """);
        noSuchThing(script, "promise 13", "latest", "");
    }

    private static void isThere(Script script) {
        script.run("promise 14, there or gone", POINT_WAY_RELATION + """
            isThere 0 -> true; isThere 1 -> true; isThere 2 -> true
            delete 0 2 1; delete 0 1 1
            isThere 0 -> true; isThere 1 -> false; isThere 2 -> false
            close 0; open; undo 1 0
            isThere 0 -> false
            """);
        noSuchThing(script, "promise 14", "isThere", "");
    }

    private static void whereIs(Script script) {
        script.run("promise 15, where", POINT_WAY_RELATION + """
            whereIs 0 -> 1234
            move 0 0 1 0 7; whereIs 0 -> 7
            move 0 0 2 99 99; whereIs 0 -> 9999
            whereIs 1 -> NO_ELEMENT; whereIs 2 -> NO_ELEMENT
            delete 0 2 1; delete 0 1 1; delete 0 0 3
            whereIs 0 -> NO_ELEMENT; whereIs 1 -> NO_ELEMENT
            """);
        noSuchThing(script, "promise 15", "whereIs", "");
    }

    private static void members(Script script) {
        script.run("promise 16, how many", POINT_WAY_RELATION + """
            members 0 -> 0; members 1 -> 3; members 2 -> 2
            change 0 1 1 -> UNLIKE; members 1 -> 3
            wipe; 6x refer 0
            change 0 1 1 -> 2
            members 1 -> 6
            delete 0 2 1 -> 2; members 2 -> 0; members 1 -> 6
            delete 0 1 2 -> 3; members 1 -> 0
            delete 0 0 1 -> 2; members 0 -> 0
            """);
        noSuchThing(script, "promise 16", "members", "");
    }

    private static void usedBy(Script script) {
        script.run("promise 17, each thing once", POINT_WAY_RELATION + """
            usedBy 0 -> 2; usedBy 1 -> 1; usedBy 2 -> 0
            make 0 RELATION -> 3
            usedBy 0 -> 3; usedBy 1 -> 2; usedBy 2 -> 0
            wipe; refer 2; refer 2
            change 0 3 1 -> 2
            usedBy 0 -> 2; usedBy 1 -> 1; usedBy 2 -> 1
            delete 0 3 2 -> 3
            usedBy 2 -> 0
            delete 0 2 1; delete 0 1 1
            usedBy 0 -> 0; usedBy 1 -> 0
            """);
        noSuchThing(script, "promise 17", "usedBy", "");
    }

    private static void hide(Script script) {
        script.run("promise 18, how many are not hidden", """
            open; point 0 1 1; move 0 0 1 2 2; move 0 0 2 3 3; move 0 0 3 4 4
            point 0 5 5; move 0 1 1 6 6
            hide 0 2 -> 3
            hide 0 1 -> 2
            hide 0 4 -> NO_STATE      # the latest one
            hide 0 2 -> NO_STATE      # hidden
            hide 0 1 -> NO_STATE
            hide 0 3 -> 1
            hide 1 1 -> 1
            move 0 0 4 5 5 -> 5
            hide 0 4 -> 1
            hide 0 5 -> NO_STATE
            """);
        script.run("promise 18, nothing else is changed by it", """
            open; open; point 0 1 1; pass 1; move 1 0 1 2 2; hide 0 1
            close 0 -> 1; versionAt 0 0 -> 1; take 1 -> 1; inCopy 0 -> 1; isTrue -> false
            whereIs 0 -> 202; latest 0 -> 2
            """);
        script.run("promise 18, a closed set's version, and one that is gone", """
            open; point 0 1 1; delete 0 0 1; open; close 0; undo 1 0
            hide 0 2 -> 2; hide 0 1 -> 1
            """);
        script.run("promise 18, no such version", POINT_WAY_RELATION + """
            hide 0 0 -> NO_INDEX; hide 0 2 -> NO_INDEX; hide 0 -1 -> NO_INDEX
            hide 0 2147483647 -> NO_INDEX; hide 0 -2147483648 -> NO_INDEX
            hide 0 1 -> NO_STATE
            """);
        noSuchThing(script, "promise 18", "hide", " 1");
    }

    private static void setOf(Script script) {
        script.run("promise 19, the set", """
            3x open
            point 2 1 1; move 0 0 1 2 2; move 1 0 2 3 3; delete 2 0 3
            setOf 0 1 -> 2; setOf 0 2 -> 0; setOf 0 3 -> 1; setOf 0 4 -> 2
            close 0; setOf 0 2 -> 0
            hide 0 2
            setOf 0 2 -> NO_ELEMENT
            setOf 0 1 -> 2; setOf 0 3 -> 1
            setOf 0 2 -> NO_ELEMENT
            """);
        script.run("promise 19, no such version", POINT_WAY_RELATION + """
            setOf 0 0 -> NO_INDEX; setOf 0 2 -> NO_INDEX; setOf 1 -1 -> NO_INDEX
            setOf 2 2147483647 -> NO_INDEX; setOf 2 -2147483648 -> NO_INDEX
            """);
        noSuchThing(script, "promise 19", "setOf", " 1");
    }

    private static void versionAt(Script script) {
        script.run("promise 20, at the end of each minute", """
            open; pass 2
            point 0 1 1; move 0 0 1 2 2; pass 1; pass 2; move 0 0 2 3 3; delete 0 0 3; pass 1
            versionAt 0 0 -> 0; versionAt 0 1 -> 0; versionAt 0 2 -> 2; versionAt 0 3 -> 2
            versionAt 0 4 -> 2; versionAt 0 5 -> 4; versionAt 0 6 -> 4
            versionAt 0 7 -> NO_ARGUMENT; versionAt 0 -1 -> NO_ARGUMENT
            versionAt 0 2147483647 -> NO_ARGUMENT; versionAt 0 -2147483648 -> NO_ARGUMENT
            hide 0 2; hide 0 1
            versionAt 0 2 -> 2      # hidden or not
            open; close 0; undo 1 0
            versionAt 0 5 -> 4; versionAt 0 6 -> 5
            """);
        script.run("promise 20, which exception", """
            versionAt 0 0 -> NO_INDEX; versionAt 0 -1 -> NO_INDEX
            open; point 0 1 1; versionAt 1 1 -> NO_INDEX; versionAt 0 1 -> NO_ARGUMENT
            """);
        script.run("promise 20, the last minute", """
            open; 50x pass 100; point 0 1 1
            versionAt 0 4999 -> 0; versionAt 0 5000 -> 1; versionAt 0 5001 -> NO_ARGUMENT
            """);
        noSuchThing(script, "promise 20", "versionAt", " 0");
    }

    private static void boxEdges(Script script) {
        script.run("promise 21, the edges are included", """
            open; point 0 10 20
            inBox 10 20 10 20 POINT -> 1; inBox 0 0 10 20 POINT -> 1; inBox 10 20 99 99 POINT -> 1
            inBox 11 20 99 99 POINT -> 0; inBox 10 21 99 99 POINT -> 0
            inBox 0 0 9 99 POINT -> 0; inBox 0 0 99 19 POINT -> 0
            inBox 0 20 99 20 POINT -> 1; inBox 10 0 10 99 POINT -> 1
            """);
        script.run("promise 21, the corners of all", """
            open; point 0 0 0; point 0 99 99; point 0 0 99; point 0 99 0
            inBox 0 0 99 99 POINT -> 4; inBox 0 0 0 0 POINT -> 1; inBox 99 99 99 99 POINT -> 1
            inBox 0 0 0 99 POINT -> 2; inBox 0 0 98 98 POINT -> 1; inBox 1 1 99 99 POINT -> 1
            """);
    }

    private static void boxContents(Script script) {
        script.run("promise 21, ways, their points and relations", """
            open
            point 0 10 10; point 0 50 50; point 0 90 90; point 0 70 70
            refer 0; refer 1; make 0 WAY -> 4
            wipe; refer 1; refer 2; make 0 WAY -> 5
            wipe; refer 0; make 0 RELATION -> 6
            wipe; refer 1; make 0 RELATION -> 7
            wipe; refer 4; make 0 RELATION -> 8
            wipe; refer 5; make 0 RELATION -> 9
            wipe; refer 8; refer 6; make 0 RELATION -> 10
            wipe; refer 3; make 0 RELATION -> 11
            inBox 0 0 20 20 POINT -> 2      # the way's other point too, but no point of a second way
            inBox 0 0 20 20 WAY -> 1
            inBox 0 0 20 20 RELATION -> 3   # of the point, of the way, of the way's other point
            inBox 40 40 60 60 POINT -> 3; inBox 40 40 60 60 WAY -> 2; inBox 40 40 60 60 RELATION -> 4
            inBox 65 65 75 75 POINT -> 1; inBox 65 65 75 75 WAY -> 0; inBox 65 65 75 75 RELATION -> 1
            inBox 0 0 99 99 POINT -> 4; inBox 0 0 99 99 WAY -> 2; inBox 0 0 99 99 RELATION -> 5
            inBox 20 20 40 40 POINT -> 0; inBox 20 20 40 40 WAY -> 0; inBox 20 20 40 40 RELATION -> 0
            """);
        script.run("promise 21, only what is there, as it is now", """
            open
            point 0 10 10; point 0 50 50; refer 0; refer 1; make 0 WAY -> 2; make 0 RELATION -> 3
            wipe; refer 2; make 0 RELATION -> 4
            inBox 0 0 20 20 RELATION -> 2
            delete 0 4 1
            inBox 0 0 20 20 RELATION -> 1
            move 0 0 1 30 30
            inBox 0 0 20 20 POINT -> 0; inBox 0 0 20 20 WAY -> 0; inBox 0 0 20 20 RELATION -> 0
            inBox 30 30 30 30 POINT -> 2
            delete 0 2 1
            inBox 30 30 30 30 POINT -> 1; inBox 30 30 30 30 WAY -> 0; inBox 30 30 30 30 RELATION -> 1
            delete 0 3 1; delete 0 0 2
            inBox 0 0 99 99 POINT -> 1; inBox 0 0 99 99 RELATION -> 0
            """);
        script.run("promise 21, a point that is gone is at no place", """
            open; point 0 0 0; point 0 5 5; delete 0 0 1; delete 0 1 1
            inBox 0 0 99 99 POINT -> 0; inBox 0 0 0 0 POINT -> 0
            refer 0; make 0 RELATION -> UNLIKE
            """);
        script.run("promise 21, a relation is at no place", """
            open; point 0 5 5; refer 0; refer 0; make 0 WAY -> 1; make 0 RELATION -> 2
            inBox 0 0 0 0 POINT -> 0; inBox 0 0 0 0 WAY -> 0; inBox 0 0 0 0 RELATION -> 0
            """);
    }

    private static void boxWrong(Script script) {
        script.run("promise 21, wrong inputs", """
            inBox -1 0 99 99 POINT -> NO_ARGUMENT; inBox 100 0 99 99 POINT -> NO_ARGUMENT
            inBox 0 -1 99 99 POINT -> NO_ARGUMENT; inBox 0 100 99 99 POINT -> NO_ARGUMENT
            inBox 0 0 100 99 POINT -> NO_ARGUMENT; inBox 0 0 99 100 POINT -> NO_ARGUMENT
            inBox 5 0 4 99 POINT -> NO_ARGUMENT; inBox 0 5 99 4 POINT -> NO_ARGUMENT
            inBox 5 5 5 5 POINT -> 0
            inBox 100 100 100 100 WAY -> NO_ARGUMENT; inBox -1 -1 -1 -1 WAY -> NO_ARGUMENT
            inBox 0 0 99 99 -1 -> NO_ARGUMENT; inBox 0 0 99 99 3 -> NO_ARGUMENT
            inBox 0 0 2147483647 99 POINT -> NO_ARGUMENT; inBox -2147483648 0 99 99 POINT -> NO_ARGUMENT
            inBox 0 0 99 -2147483648 POINT -> NO_ARGUMENT; inBox 0 0 99 99 2147483647 -> NO_ARGUMENT
            """);
    }
}
