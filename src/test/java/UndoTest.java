/** Promise 11: undoing a set in another one. */
public final class UndoTest {
    public static void main(String[] args) {
        Script script = new Script();
        points(script);
        edited(script);
        gone(script);
        used(script);
        unlike(script);
        ring(script);
        order(script);
        hidden(script);
        wrong(script);
        script.end("UndoTest");
    }

    private static void points(Script script) {
        script.run("promise 11, what it made is gone", """
            2x open
            point 0 1 1; point 0 2 2; refer 0; refer 1; make 0 WAY -> 2; make 0 RELATION -> 3
            close 0 -> 4
            undo 1 0 -> 0
            isThere 0 -> false; isThere 1 -> false; isThere 2 -> false; isThere 3 -> false
            latest 0 -> 2; setOf 0 2 -> 1; latest 3 -> 2; members 3 -> 0; usedBy 0 -> 0
            close 1 -> 4
            """);
        script.run("promise 11, what it moved is back", """
            3x open
            point 0 1 1; point 0 3 3; point 0 4 4
            move 1 0 1 2 2; move 1 0 2 5 5; move 1 1 1 6 6
            close 1 -> 3
            undo 2 1 -> 0
            whereIs 0 -> 101; latest 0 -> 4; setOf 0 4 -> 2
            whereIs 1 -> 303; latest 1 -> 3
            latest 2 -> 1
            close 2 -> 2
            """);
        script.run("promise 11, an empty set, and one undone already", """
            3x open
            close 0 -> 0
            undo 1 0 -> 0
            point 1 1 1; close 1 -> 1
            undo 2 1 -> 0
            undo 2 1 -> 1
            undo 2 1 -> 1
            latest 0 -> 2
            """);
    }

    private static void edited(Script script) {
        script.run("promise 11, edited since", """
            3x open
            point 0 1 1; point 0 2 2
            move 1 0 1 9 9
            close 0 -> 2
            undo 2 0 -> 1
            whereIs 0 -> 909; latest 0 -> 2; isThere 1 -> false
            """);
        script.run("promise 11, the last one ahead that is of another set", """
            4x open
            point 0 1 1
            move 1 0 1 2 2; move 2 0 2 3 3; move 1 0 3 4 4; move 1 0 4 5 5
            close 1 -> 3
            undo 3 1 -> 0
            whereIs 0 -> 303      # of set 2, not of set 0
            latest 0 -> 6
            """);
        script.run("promise 11, a version of the undoing set", """
            2x open
            point 0 1 1; move 1 0 1 2 2; move 0 0 2 3 3
            close 0 -> 2
            undo 1 0 -> 0
            whereIs 0 -> 202; latest 0 -> 4; setOf 0 4 -> 1
            """);
        script.run("promise 11, members", """
            3x open
            point 0 1 1; point 0 2 2; refer 0; refer 1; refer 0; make 0 WAY -> 2
            wipe; refer 2; make 0 RELATION -> 3
            wipe; refer 1; refer 1; change 1 2 1 -> 2
            wipe; refer 0; refer 1; change 1 3 1 -> 2
            usedBy 0 -> 1; usedBy 1 -> 2; usedBy 2 -> 0
            close 1 -> 2
            undo 2 1 -> 0
            members 2 -> 3; members 3 -> 1; usedBy 0 -> 1; usedBy 1 -> 1; usedBy 2 -> 1
            wipe -> 2
            """);
        script.run("promise 11, undoing an undoing", """
            3x open
            point 0 1 1; point 0 2 2; refer 0; refer 1; make 0 RELATION -> 2
            close 0 -> 3
            undo 1 0 -> 0
            close 1 -> 3
            undo 2 1 -> 1      # the points are gone when it comes to the relation
            isThere 0 -> true; isThere 1 -> true; isThere 2 -> false; whereIs 1 -> 202
            """);
    }

    private static void gone(Script script) {
        script.run("promise 11, gone already", """
            2x open
            point 0 1 1; delete 0 0 1 -> 2
            close 0 -> 2
            undo 1 0 -> 0
            latest 0 -> 3; isThere 0 -> false; setOf 0 3 -> 1
            close 1 -> 1
            """);
        script.run("promise 11, a version that is gone is like one that is gone", """
            4x open
            point 0 1 1; delete 1 0 1 -> 2; close 1 -> 1
            undo 2 1 -> 0
            whereIs 0 -> 101; latest 0 -> 3
            close 2 -> 1
            undo 3 2 -> 0
            isThere 0 -> false; latest 0 -> 4
            """);
        script.run("promise 11, a deleted way is there again", """
            3x open
            point 0 1 1; refer 0; refer 0; make 0 WAY -> 1
            delete 1 1 1 -> 2
            close 1 -> 1
            undo 2 1 -> 0
            isThere 1 -> true; members 1 -> 2; latest 1 -> 3; usedBy 0 -> 1
            """);
        script.run("promise 11, made and deleted by others since", """
            3x open
            point 0 1 1; delete 1 0 1 -> 2
            close 0 -> 1
            undo 2 0 -> 1
            latest 0 -> 2
            """);
    }

    private static void used(Script script) {
        script.run("promise 11, USED by a thing of another set", """
            3x open
            point 0 1 1; point 0 2 2; refer 0; refer 0; make 1 WAY -> 2
            close 0 -> 2
            undo 2 0 -> 1
            isThere 0 -> true; latest 0 -> 1; isThere 1 -> false
            delete 1 2 1 -> 2
            undo 2 0 -> 1      # now the point 1 is of set 2
            isThere 0 -> false
            """);
        script.run("promise 11, USED is only for what would be gone", """
            3x open
            point 0 1 1; move 1 0 1 2 2; refer 0; refer 0; make 0 WAY -> 1
            close 1 -> 1
            undo 2 1 -> 0
            whereIs 0 -> 101; usedBy 0 -> 1
            """);
    }

    private static void unlike(Script script) {
        script.run("promise 11, a member is gone", """
            4x open
            point 0 1 1; point 0 2 2; refer 0; refer 0; make 0 WAY -> 2
            wipe; refer 1; refer 1; change 1 2 1 -> 2
            delete 2 0 1 -> 2
            close 1 -> 1
            undo 3 1 -> 1
            latest 2 -> 2; usedBy 1 -> 1
            close 2 -> 1
            undo 3 2 -> 0
            isThere 0 -> true
            undo 3 1 -> 0
            latest 2 -> 3; usedBy 0 -> 1; usedBy 1 -> 0
            """);
        script.run("promise 11, a relation's member is gone", """
            4x open
            point 0 1 1; point 0 2 2; refer 0; make 0 RELATION -> 2
            wipe; refer 1; change 1 2 1 -> 2
            delete 2 0 1 -> 2
            close 1 -> 1
            undo 3 1 -> 1
            latest 2 -> 2
            """);
    }

    private static void ring(Script script) {
        script.run("promise 11, RING", """
            5x open
            point 0 1 1; refer 0; make 0 RELATION -> 1
            wipe; refer 1; make 1 RELATION -> 2
            wipe; refer 0; change 2 2 1 -> 2
            wipe; refer 2; change 3 1 1 -> 2
            close 2 -> 1
            undo 4 2 -> 1      # relation 2 would use relation 1, which uses it
            latest 2 -> 2; usedBy 1 -> 0
            close 3 -> 1
            undo 4 3 -> 0
            undo 4 2 -> 0
            usedBy 1 -> 1; usedBy 2 -> 0; latest 2 -> 3
            """);
    }

    private static void order(Script script) {
        script.run("promise 11, falling numbers: users are gone ahead of what they use", """
            2x open
            point 0 1 1; refer 0; make 0 RELATION -> 1
            wipe; refer 1; make 0 RELATION -> 2
            close 0 -> 3
            undo 1 0 -> 0
            """);
        script.run("promise 11, falling numbers: a user with a lower number", """
            4x open
            point 0 1 1; refer 0; make 0 RELATION -> 1
            point 1 2 2 -> 2
            wipe; refer 2; change 1 1 1 -> 2
            close 1 -> 2
            undo 3 1 -> 1      # the point 2 is still used when its turn comes
            isThere 2 -> true; usedBy 0 -> 1; usedBy 2 -> 0; latest 1 -> 3
            undo 3 1 -> 1      # the relation is of set 3 now
            isThere 2 -> false
            """);
        script.run("promise 11, falling numbers: a member with a higher number", """
            3x open
            point 0 1 1; refer 0; make 0 RELATION -> 1; point 0 2 2 -> 2
            wipe; refer 2; change 0 1 1 -> 2
            delete 1 1 2 -> 3; delete 1 2 1 -> 2
            close 1 -> 2
            undo 2 1 -> 0
            isThere 2 -> true; usedBy 2 -> 1
            """);
    }

    private static void hidden(Script script) {
        script.run("promise 11, a version that is hidden is a version", """
            3x open
            point 0 1 1; move 1 0 1 2 2; hide 0 1 -> 1
            close 1 -> 1
            undo 2 1 -> 0
            whereIs 0 -> 101; latest 0 -> 3
            setOf 0 3 -> 2; setOf 0 1 -> NO_ELEMENT
            """);
    }

    private static void wrong(Script script) {
        script.run("promise 11, wrong inputs", """
            undo 0 0 -> NO_INDEX
            2x open
            point 0 1 1
            undo 0 2 -> NO_INDEX; undo 2 0 -> NO_INDEX; undo -1 0 -> NO_INDEX; undo 0 -1 -> NO_INDEX
            undo 0 2147483647 -> NO_INDEX; undo -2147483648 0 -> NO_INDEX
            undo 0 0 -> NO_STATE      # open
            undo 1 0 -> NO_STATE      # the other one is open
            close 0 -> 1
            undo 0 0 -> NO_STATE      # closed
            undo 0 1 -> NO_STATE      # the first one is closed, the other one is open
            undo 0 2 -> NO_INDEX; undo 2 0 -> NO_INDEX
            latest 0 -> 1
            undo 1 0 -> 0
            close 1 -> 1
            undo 1 0 -> NO_STATE      # the first one is closed
            latest 0 -> 2
            """);
    }
}
