/** What the document says of undoing, clause by clause, with what is not undone and stays as it is. */
public final class UndoTermsTest {
    public static void main(String[] args) {
        Script script = new Script();
        noThing(script);
        latestOfOther(script);
        lastAhead(script);
        nothingAhead(script);
        goneAlready(script);
        asUsed(script);
        byUnlike(script);
        byRing(script);
        byFallingNumbers(script);
        howMany(script);
        whoseVersions(script);
        ofAll(script);
        wrong(script);
        script.end("UndoTermsTest");
    }

    private static void noThing(Script script) {
        script.unchanged("undo, no thing has a version of it", """
            3x open; point 0 1 1; refer 0; make 0 RELATION; close 1
            """, "undo 2 1 -> 0; undo 0 1 -> 0");
        script.unchanged("undo, there are no things", "2x open; close 0", "undo 1 0 -> 0");
    }

    private static void latestOfOther(Script script) {
        script.unchanged("undo, the latest version is not of that set", """
            3x open; point 0 1 1; move 1 0 1 2 2; close 0
            """, "undo 2 0 -> 1; undo 1 0 -> 1");
        script.unchanged("undo, the latest version is gone and not of that set", """
            3x open; point 0 1 1; delete 1 0 1; close 0
            """, "undo 2 0 -> 1; undo 1 0 -> 1");
        script.run("undo, a version of another one in between", """
            3x open; point 0 1 1; move 1 0 1 2 2; move 0 0 2 3 3; close 0; undo 2 0 -> 0; whereIs 0 -> 202
            """);
    }

    private static void lastAhead(Script script) {
        script.run("undo, the one ahead of the latest", """
            3x open; point 0 1 1; move 1 0 1 2 2; close 1; undo 2 1 -> 0; whereIs 0 -> 101; latest 0 -> 3
            """);
        script.run("undo, the last one of several ahead", """
            4x open; point 0 1 1; move 0 0 1 2 2; move 1 0 2 3 3; move 3 0 3 4 4; move 1 0 4 5 5; move 1 0 5 6 6
            close 1; undo 2 1 -> 0; whereIs 0 -> 404; latest 0 -> 7
            """);
        script.run("undo, the one ahead is of the undoing set", """
            2x open; point 0 1 1; move 1 0 1 2 2; close 1; open; undo 2 1 -> 0; whereIs 0 -> 101
            """);
        script.run("undo, the one ahead is hidden", """
            3x open; point 0 1 1; move 1 0 1 2 2; hide 0 1; close 1; undo 2 1 -> 0; whereIs 0 -> 101
            """);
        script.run("undo, the one ahead is gone", """
            4x open; point 0 1 1; delete 0 0 1; close 0; undo 1 0 -> 0; latest 0 -> 3; isThere 0 -> false
            close 1; undo 2 1 -> 0; latest 0 -> 4; isThere 0 -> false
            close 2; undo 3 2 -> 0; latest 0 -> 5; isThere 0 -> false
            """);
        script.run("undo, the members are those of the one ahead, and the draft stays", """
            3x open; point 0 1 1; point 0 2 2; 5x refer 0; make 0 WAY -> 2; wipe; refer 1; refer 1; refer 1
            change 1 2 1 -> 2; close 1; wipe; refer 1
            undo 2 1 -> 0; members 2 -> 5; usedBy 0 -> 1; usedBy 1 -> 0; wipe -> 1
            """);
    }

    private static void nothingAhead(Script script) {
        script.run("undo, none ahead: a point, a way and a relation are gone", """
            2x open; point 0 1 1; 2x refer 0; make 0 WAY; make 0 RELATION; close 0; undo 1 0 -> 0
            isThere 0 -> false; isThere 1 -> false; isThere 2 -> false
            latest 0 -> 2; latest 1 -> 2; latest 2 -> 2
            """);
        script.run("undo, none ahead: all versions are of that set", """
            2x open; point 0 1 1; move 0 0 1 2 2; move 0 0 2 3 3; close 0; undo 1 0 -> 0
            isThere 0 -> false; latest 0 -> 4
            """);
    }

    private static void goneAlready(Script script) {
        script.run("undo, gone already by that set alone", """
            2x open; point 0 1 1; 2x refer 0; make 0 WAY; delete 0 1 1; delete 0 0 1; close 0; undo 1 0 -> 0
            latest 0 -> 3; latest 1 -> 3; isThere 0 -> false; isThere 1 -> false; setOf 0 3 -> 1; setOf 1 3 -> 1
            close 1 -> 2
            """);
    }

    private static void asUsed(Script script) {
        script.unchanged("undo, USED by a way of another set", """
            3x open; point 0 1 1; 2x refer 0; make 1 WAY; close 0
            """, "undo 2 0 -> 1; undo 1 0 -> 1");
        script.unchanged("undo, USED by a relation of another set", """
            3x open; point 1 1 1; 2x refer 0; make 0 WAY -> 1; wipe; refer 1; make 1 RELATION -> 2; close 0
            """, "undo 2 0 -> 1");
        script.unchanged("undo, USED though it would be gone as it was ahead", """
            5x open; point 0 1 1; delete 1 0 1; close 1; undo 2 1; refer 0; make 3 RELATION; close 2
            """, "undo 4 2 -> 1");
        script.run("undo, USED no more when the user is gone", """
            5x open; point 0 1 1; delete 1 0 1; close 1; undo 2 1 -> 0; refer 0; make 3 RELATION -> 1
            close 2; undo 4 2 -> 1; isThere 0 -> true; latest 0 -> 3
            delete 3 1 1; undo 4 2 -> 0; isThere 0 -> false; latest 0 -> 4
            """);
        script.run("undo, what is used can be as it was ahead", """
            3x open; point 0 1 1; 2x refer 0; make 0 WAY; move 1 0 1 2 2; close 1; undo 2 1 -> 0; whereIs 0 -> 101
            """);
    }

    private static void byUnlike(Script script) {
        String wayMoved = """
            4x open; point 0 1 1; point 0 2 2; point 0 3 3; refer 0; refer 1; make 0 WAY -> 3; make 0 RELATION -> 4
            wipe; refer 2; refer 2; change 1 3 1; change 1 4 1; delete 2 1 1; close 1
            """;
        script.unchanged("undo, UNLIKE: a way and a relation have a member that is gone", wayMoved, "undo 3 1 -> 2");
        script.run("undo, UNLIKE no more when the member is there again", wayMoved + """
            close 2; undo 3 2 -> 0; isThere 1 -> true; undo 3 1 -> 0; latest 3 -> 3; latest 4 -> 3; usedBy 1 -> 2
            """);
        script.unchanged("undo, UNLIKE: a deleted way cannot be there again", """
            4x open; point 0 1 1; 2x refer 0; make 0 WAY; delete 1 1 1; delete 2 0 1; close 1
            """, "undo 3 1 -> 1");
        script.unchanged("undo, UNLIKE: a deleted relation cannot be there again", """
            4x open; point 0 1 1; refer 0; make 0 RELATION; delete 1 1 1; delete 2 0 1; close 1
            """, "undo 3 1 -> 1");
    }

    private static void byRing(Script script) {
        script.unchanged("undo, RING by two relations", """
            4x open; point 0 1 1; refer 0; make 0 RELATION -> 1; wipe; refer 1; make 0 RELATION -> 2
            wipe; refer 0; change 1 2 1; wipe; refer 2; change 2 1 1; close 1
            """, "undo 3 1 -> 1");
        script.unchanged("undo, RING by three relations", """
            4x open; point 0 1 1; refer 0; make 0 RELATION -> 1; wipe; refer 1; make 0 RELATION -> 2
            wipe; refer 2; make 0 RELATION -> 3; wipe; refer 0; change 1 2 1; wipe; refer 3; change 2 1 1; close 1
            """, "undo 3 1 -> 1");
        script.run("undo, no RING when both are undone", """
            3x open; point 0 1 1; refer 0; make 0 RELATION -> 1; wipe; refer 1; make 0 RELATION -> 2
            wipe; refer 0; change 1 2 1; wipe; refer 0; refer 2; change 1 1 1; close 1
            undo 2 1 -> 1; members 1 -> 1; usedBy 1 -> 0      # relation 2 came first, when 1 still used it
            undo 2 1 -> 1; usedBy 1 -> 1      # now relation 1 is the one that is not of that set
            """);
    }

    private static void byFallingNumbers(Script script) {
        script.run("undo, users with higher numbers are gone first", """
            2x open; point 0 1 1; 2x refer 0; make 0 WAY; wipe; refer 1; make 0 RELATION; close 0; undo 1 0 -> 0
            """);
        script.run("undo, a user with a lower number is still there", """
            3x open; point 0 1 1; refer 0; make 0 RELATION -> 1; point 1 2 2 -> 2; wipe; refer 2; change 1 1 1
            close 1; undo 2 1 -> 1; isThere 2 -> true; latest 1 -> 3; latest 2 -> 1
            """);
        script.run("undo, a member with a lower number is not there yet", """
            3x open; point 0 1 1; refer 0; make 0 RELATION -> 1; delete 1 1 1; delete 1 0 1; close 1
            undo 2 1 -> 1; isThere 0 -> true; isThere 1 -> false; latest 1 -> 2
            undo 2 1 -> 1; isThere 1 -> true; latest 1 -> 3
            """);
        script.run("undo, a member with a higher number is there already", """
            3x open; point 0 1 1; refer 0; make 0 RELATION -> 1; point 0 2 2; wipe; refer 2; change 0 1 1
            delete 1 1 2; delete 1 2 1; close 1; undo 2 1 -> 0; isThere 1 -> true; usedBy 2 -> 1
            """);
    }

    private static void howMany(Script script) {
        script.run("undo, a thing with several versions of it counts once", """
            3x open; point 0 1 1; move 0 0 1 2 2; move 0 0 2 3 3; move 1 0 3 4 4; close 0; undo 2 0 -> 1
            """);
        script.run("undo, how many are not undone", """
            3x open; 5x point 0 1 1; move 1 0 1 2 2; move 1 4 1 2 2; refer 2; make 1 RELATION; close 0
            undo 2 0 -> 3; isThere 0 -> true; isThere 1 -> false; isThere 2 -> true; isThere 3 -> false
            """);
        script.unchanged("undo, none of several is undone", """
            3x open; 5x point 0 1 1; refer 0; refer 1; refer 2; refer 3; refer 4; make 1 RELATION; close 0
            """, "undo 2 0 -> 5");
    }

    private static void whoseVersions(Script script) {
        script.run("undo, the versions are of the undoing set and of now", """
            3x open; point 0 1 1; point 1 2 2; close 0; pass 3; undo 2 0 -> 0
            setOf 0 2 -> 2; setOf 0 1 -> 0; versionAt 0 2 -> 1; versionAt 0 3 -> 2; latest 1 -> 1
            pass 1; take 100 -> 3; isTrue -> true; close 2 -> 1
            """);
        script.run("undo, long after", """
            2x open; point 0 1 1; close 0; 50x pass 100; undo 1 0 -> 0; versionAt 0 4999 -> 1; versionAt 0 5000 -> 2
            """);
    }

    private static void ofAll(Script script) {
        script.run("undo, all 40 things with all 20 sets", """
            20x open; 40x point 0 1 1; close 0 -> 40; undo 19 0 -> 0; close 19 -> 40
            isThere 0 -> false; isThere 39 -> false; latest 0 -> 2; latest 39 -> 2; undo 1 19 -> 0
            isThere 0 -> true; isThere 39 -> true; latest 0 -> 3; things -> 40
            """);
    }

    private static void wrong(Script script) {
        String sets = "3x open; point 0 1 1; close 0; close 1\n";
        script.refused("undo, there is no such set, of either", sets, """
            undo 3 0 -> NO_INDEX; undo -1 0 -> NO_INDEX; undo MAX 0 -> NO_INDEX; undo MIN 0 -> NO_INDEX
            undo 2 3 -> NO_INDEX; undo 2 -1 -> NO_INDEX; undo 2 MAX -> NO_INDEX; undo 2 MIN -> NO_INDEX
            undo 3 3 -> NO_INDEX; undo -1 20 -> NO_INDEX
            """);
        script.refused("undo, the first set is closed", sets, "undo 1 0 -> NO_STATE; undo 0 1 -> NO_STATE");
        script.refused("undo, the other one is open", sets + "open", "undo 2 3 -> NO_STATE; undo 3 2 -> NO_STATE");
        script.refused("undo, itself, open or closed", sets, "undo 2 2 -> NO_STATE; undo 0 0 -> NO_STATE");
        script.refused("undo, the first set is closed and the other one open", sets, "undo 0 2 -> NO_STATE");
        script.refused("undo, no such set is ahead of closed and open", sets, """
            undo 0 3 -> NO_INDEX; undo 3 2 -> NO_INDEX; undo 0 -1 -> NO_INDEX; undo -1 2 -> NO_INDEX
            """);
        script.refused("undo, there are no sets", "pass 1", "undo 0 0 -> NO_INDEX");
        script.refused("undo, the last of 20 sets and none behind", "20x open; close 19", """
            undo 0 20 -> NO_INDEX; undo 20 19 -> NO_INDEX; undo 19 0 -> NO_STATE
            """);
    }
}
