/** Promises 1 to 5: a new object, sets and the draft. */
public final class SetsTest {
    public static void main(String[] args) {
        Script script = new Script();
        newObject(script);
        twoObjects(script);
        open(script);
        close(script);
        refer(script);
        wipe(script);
        script.end("SetsTest");
    }

    private static void newObject(Script script) {
        script.run("promise 1, nothing in it", """
            things -> 0; wipe -> 0; isTrue -> true
            latest 0 -> NO_INDEX; isThere 0 -> NO_INDEX; inCopy 0 -> NO_INDEX
            refer 0 -> NO_INDEX; close 0 -> NO_INDEX; undo 0 0 -> NO_INDEX
            inBox 0 0 99 99 POINT -> 0; inBox 0 0 99 99 WAY -> 0; inBox 0 0 99 99 RELATION -> 0
            take 100 -> 0
            open -> 0
            point 0 1 1 -> 0
            """);
        script.run("promise 1, minute 0", """
            open; point 0 1 1; versionAt 0 0 -> 1; versionAt 0 1 -> NO_ARGUMENT
            """);
    }

    private static void twoObjects(Script script) {
        MapRevisions one = new MapRevisions();
        MapRevisions other = new MapRevisions();
        one.open();
        one.point(0, 1, 2);
        one.refer(0);
        one.pass(7);
        script.due("promise 1, the other object's things", other.things(), 0);
        script.due("promise 1, the other object's draft", other.wipe(), 0);
        script.due("promise 1, the other object's set", other.open(), 0);
        script.due("promise 1, the other object's minute", other.pass(1), 1);
        script.due("promise 1, the one's things", one.things(), 1);
    }

    private static void open(Script script) {
        script.run("promise 2, numbers", "open -> 0; open -> 1; close 0; open -> 2; close 2; open -> 3");
        script.run("promise 2, at most 20", """
            19x open
            open -> 19
            open -> NO_STATE
            open -> NO_STATE
            point 19 1 1 -> 0
            point 20 1 1 -> NO_INDEX
            """);
        script.run("promise 2, closed ones count", """
            20x open
            close 0; close 19
            open -> NO_STATE
            close 20 -> NO_INDEX
            """);
    }

    private static void close(Script script) {
        script.run("promise 3, how many versions", """
            3x open
            point 0 1 1; point 1 2 2; point 0 3 3; point 2 4 4
            move 1 0 1 5 5 -> 2; move 0 0 2 6 6 -> 3; delete 0 2 1 -> 2
            move 0 0 2 6 6 -> OLD; move 0 2 2 6 6 -> GONE
            close 0 -> 4
            close 1 -> 2
            close 2 -> 1
            """);
        script.run("promise 3, an empty set", "open; close 0 -> 0");
        script.run("promise 3, hidden versions are versions", """
            open; point 0 1 1; move 0 0 1 2 2; hide 0 1; close 0 -> 2
            """);
        script.run("promise 3, versions by undoing", """
            2x open
            point 0 1 1; point 0 2 2; close 0 -> 2
            undo 1 0 -> 0
            close 1 -> 2
            """);
        script.run("promise 3, refusals make none", """
            open; make 0 WAY -> UNLIKE; make 0 RELATION -> UNLIKE
            point 0 1 1; refer 0; make 0 RELATION -> 1; delete 0 0 1 -> USED
            close 0 -> 2
            """);
        script.run("promise 3, wrong inputs", """
            close 0 -> NO_INDEX
            open
            close -1 -> NO_INDEX; close 1 -> NO_INDEX; close 20 -> NO_INDEX
            close 2147483647 -> NO_INDEX; close -2147483648 -> NO_INDEX
            close 0 -> 0
            close 0 -> NO_STATE
            close 0 -> NO_STATE
            close 1 -> NO_INDEX
            """);
        script.run("promise 3, for good", """
            open; point 0 1 1; close 0
            open -> 1
            point 0 1 1 -> NO_STATE; move 0 0 1 1 1 -> NO_STATE; delete 0 0 1 -> NO_STATE
            """);
    }

    private static void refer(Script script) {
        script.run("promise 4, how many", """
            open; point 0 1 1; point 0 2 2
            refer 0 -> 1; refer 1 -> 2; refer 0 -> 3; refer 0 -> 4; refer 1 -> 5; refer 1 -> 6
            refer 1 -> NO_STATE
            refer 0 -> NO_STATE
            make 0 WAY -> 2
            members 2 -> 6
            wipe -> 6
            refer 0 -> 1
            """);
        script.run("promise 4, wrong inputs", """
            refer 0 -> NO_INDEX
            open; point 0 1 1
            refer -1 -> NO_INDEX; refer 1 -> NO_INDEX; refer 40 -> NO_INDEX
            refer 2147483647 -> NO_INDEX; refer -2147483648 -> NO_INDEX
            refer 0 -> 1
            5x refer 0
            refer 1 -> NO_INDEX
            refer 0 -> NO_STATE
            wipe -> 6
            """);
        script.run("promise 4, a thing that is gone, and the last of 40", """
            open; 40x point 0 1 1; delete 0 39 1 -> 2
            refer 39 -> 1
            refer 40 -> NO_INDEX
            """);
    }

    private static void wipe(Script script) {
        script.run("promise 5, how many it had", """
            wipe -> 0
            open; point 0 1 1
            refer 0; refer 0; refer 0
            wipe -> 3
            wipe -> 0
            make 0 RELATION -> UNLIKE
            6x refer 0
            wipe -> 6
            refer 0 -> 1
            """);
        script.run("promise 5, nothing else wipes it", """
            open; open; point 0 1 1; point 0 2 2
            refer 0; refer 1
            make 0 WAY -> 2; make 0 WAY -> 3; make 0 RELATION -> 4
            change 0 2 1 -> 2; change 0 2 1 -> OLD
            move 0 0 1 5 5 -> 2; delete 0 4 1 -> 2; pass 1; take 1
            close 0; undo 1 0
            wipe -> 2
            """);
    }
}
