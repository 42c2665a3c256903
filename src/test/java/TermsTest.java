/** The document's terms, sentence by sentence: each one that names a boundary case has its run. */
public final class TermsTest {
    /** Things 0 to 2 are points, 3 a way of 0 and 1, 4 a relation of 3, 5 one of 4; set 1 is closed. */
    private static final String SOME = """
            open; open; close 1; point 0 10 10; point 0 20 20; point 0 30 30
            refer 0; refer 1; make 0 WAY -> 3; wipe; refer 3; make 0 RELATION -> 4
            wipe; refer 4; make 0 RELATION -> 5; wipe
            """;

    public static void main(String[] args) {
        Script script = new Script();
        questions(script);
        things(script);
        versions(script);
        places(script);
        wayMembers(script);
        relationMembers(script);
        order(script);
        users(script);
        rings(script);
        sets(script);
        atFirst(script);
        draft(script);
        firstRefusal(script);
        unlike(script);
        used(script);
        script.end("TermsTest");
    }

    private static void questions(Script script) {
        script.unchanged("Questions change nothing", SOME + "refer 2; pass 2; move 0 0 1 5 5; hide 0 1; take 1", """
            things -> 6; latest 0 -> 2; isThere 0 -> true; whereIs 0 -> 505; members 3 -> 2; usedBy 0 -> 1
            setOf 3 1 -> 0; setOf 0 1 -> NO_ELEMENT; versionAt 0 0 -> 1; versionAt 0 2 -> 2
            inBox 0 0 99 99 POINT -> 3; inBox 5 5 5 5 WAY -> 1; inBox 0 0 99 99 RELATION -> 1
            inCopy 0 -> 1; isTrue -> false
            """);
    }

    private static void things(Script script) {
        String full = "open; 37x point 0 1 1; refer 0; refer 1; make 0 WAY -> 37; make 0 RELATION -> 38\n";
        script.run("things are at most 40, the last is a point", full + "point 0 1 1 -> 39; things -> 40");
        script.run("things are at most 40, the last is a way", full + "make 0 WAY -> 39; things -> 40");
        script.run("things are at most 40, the last is a relation", full + "make 0 RELATION -> 39; things -> 40");
        script.refused("things are at most 40, none is the 41st", full + "point 0 1 1",
                "point 0 1 1 -> NO_STATE; make 0 WAY -> NO_STATE; make 0 RELATION -> NO_STATE");
        script.refused("things are at most 40, those that are gone count", full + "point 0 1 1; delete 0 39 1",
                "point 0 1 1 -> NO_STATE; make 0 WAY -> NO_STATE; make 0 RELATION -> NO_STATE");
        script.run("things are at most 40, and all can have new versions", full + """
            point 0 1 1; move 0 39 1 2 2 -> 2; change 0 38 1 -> 2; change 0 37 1 -> 2; delete 0 39 2 -> 3
            open; close 0; undo 1 0 -> 0; latest 39 -> 4; latest 0 -> 2
            """);
    }

    private static void versions(Script script) {
        script.run("versions are numbered from 1, the last one is the latest", SOME + """
            latest 0 -> 1; latest 3 -> 1; latest 5 -> 1; move 0 0 1 1 1 -> 2; change 0 3 1 -> UNLIKE
            refer 2; refer 2; change 0 3 1 -> 2; delete 0 5 1 -> 2; latest 0 -> 2; latest 3 -> 2; latest 5 -> 2
            """);
        script.run("a version that is gone is one of the numbers", """
            open; point 0 1 1; delete 0 0 1 -> 2; open; close 0; undo 1 0 -> 0; latest 0 -> 3
            """);
    }

    private static void places(Script script) {
        script.run("x and y are 0 to 99 each", """
            open; point 0 0 0 -> 0; point 0 99 0 -> 1; point 0 0 99 -> 2; point 0 99 99 -> 3
            whereIs 0 -> 0; whereIs 1 -> 9900; whereIs 2 -> 99; whereIs 3 -> 9999
            move 0 3 1 0 0 -> 2; move 0 2 1 99 0 -> 2; move 0 1 1 0 99 -> 2; move 0 0 1 99 99 -> 2
            whereIs 3 -> 0; whereIs 2 -> 9900; whereIs 1 -> 99; whereIs 0 -> 9999
            """);
    }

    private static void wayMembers(Script script) {
        String points = "open; point 0 1 1; point 0 2 2\n";
        script.refused("a way has 2 points and more", points, "make 0 WAY -> UNLIKE");
        script.refused("a way has 2 points and more", points + "refer 0", "make 0 WAY -> UNLIKE");
        script.run("a way has 2 points", points + "refer 0; refer 1; make 0 WAY -> 2; members 2 -> 2");
        script.run("a way has up to 6 points", points + "3x refer 0; 3x refer 1; make 0 WAY -> 2; members 2 -> 6");
        String way = points + "refer 0; refer 1; refer 0; make 0 WAY -> 2; wipe\n";
        script.refused("a changed way has 2 points and more", way, "change 0 2 1 -> UNLIKE");
        script.refused("a changed way has 2 points and more", way + "refer 0", "change 0 2 1 -> UNLIKE");
        script.run("a changed way has 2 points", way + "2x refer 0; change 0 2 1 -> 2; members 2 -> 2");
        script.run("a changed way has up to 6 points", way + "6x refer 0; change 0 2 1 -> 2; members 2 -> 6");
    }

    private static void relationMembers(Script script) {
        String points = "open; point 0 1 1\n";
        script.refused("a relation has 1 thing and more", points, "make 0 RELATION -> UNLIKE");
        script.run("a relation has 1 thing", points + "refer 0; make 0 RELATION -> 1; members 1 -> 1");
        script.run("a relation has up to 6 things", points + "6x refer 0; make 0 RELATION -> 1; members 1 -> 6");
        String relation = points + "refer 0; refer 0; make 0 RELATION -> 1; wipe\n";
        script.refused("a changed relation has 1 thing and more", relation, "change 0 1 1 -> UNLIKE");
        script.run("a changed relation has 1 thing", relation + "refer 0; change 0 1 1 -> 2; members 1 -> 1");
        script.run("a changed relation has up to 6 things", relation + """
            6x refer 0; change 0 1 1 -> 2; members 1 -> 6
            """);
        script.run("a relation has things of all kinds", SOME + """
            refer 0; refer 3; refer 4; refer 5; make 0 RELATION -> 6; members 6 -> 4
            usedBy 0 -> 2; usedBy 3 -> 2; usedBy 4 -> 2; usedBy 5 -> 1
            """);
    }

    private static void order(Script script) {
        script.run("one can be a member several times", """
            open; point 0 1 1; point 0 2 2; refer 0; refer 1; refer 0; refer 0; make 0 WAY -> 2; make 0 RELATION -> 3
            members 2 -> 4; members 3 -> 4; usedBy 0 -> 2; usedBy 1 -> 2
            """);
    }

    private static void users(Script script) {
        script.run("a thing is there if its latest version is", """
            open; point 0 1 1; isThere 0 -> true; delete 0 0 1; isThere 0 -> false
            open; close 0; open; undo 2 0; isThere 0 -> false
            """);
        script.run("a thing that is gone uses none", SOME + """
            delete 0 5 1; usedBy 4 -> 0; delete 0 4 1; usedBy 3 -> 0; delete 0 3 1; usedBy 0 -> 0; usedBy 1 -> 0
            """);
        script.run("a thing uses by its latest version alone", SOME + """
            refer 2; refer 2; change 0 3 1; usedBy 0 -> 0; usedBy 1 -> 0; usedBy 2 -> 1
            """);
        script.run("a thing does not use its members' members", SOME + "usedBy 0 -> 1; usedBy 3 -> 1; usedBy 4 -> 1");
    }

    private static void rings(Script script) {
        script.refused("a relation in a ring by going once", SOME + "refer 4", "change 0 4 1 -> RING");
        script.refused("a relation in a ring by going twice", SOME + "refer 5", "change 0 4 1 -> RING");
        script.refused("a relation in a ring by its last member", SOME + """
            refer 0; refer 1; refer 2; refer 3; refer 3; refer 5
            """, "change 0 4 1 -> RING");
        script.refused("a relation in a ring by going three times", SOME + """
            refer 5; refer 0; make 0 RELATION -> 6; wipe; refer 6
            """, "change 0 4 1 -> RING; change 0 5 1 -> RING; change 0 6 1 -> RING");
        script.run("a relation is in no ring by what uses it", SOME + """
            refer 3; refer 0; change 0 4 1 -> 2; wipe; refer 4; refer 4; change 0 5 1 -> 2
            """);
        script.run("a relation is in no ring by members of older versions", SOME + """
            refer 0; change 0 5 1 -> 2; wipe; refer 5; change 0 4 1 -> 2
            """);
        script.run("a relation is in no ring by relations that are gone", SOME + """
            delete 0 5 1; refer 0; make 0 RELATION -> 6; wipe; refer 6; change 0 4 1 -> 2
            """);
    }

    private static void sets(Script script) {
        script.run("sets are numbered from 0, at most 20", "open -> 0; open -> 1; 17x open; open -> 19; open -> NO_STATE");
        script.refused("sets are at most 20, open ones", "20x open", "open -> NO_STATE");
        script.refused("sets are at most 20, closed ones too", "20x open; close 0; close 7; close 19", "open -> NO_STATE");
        script.run("sets are open at first", "20x open; point 0 1 1 -> 0; point 19 1 1 -> 1; close 19 -> 1; close 0 -> 1");
        script.refused("sets are closed for good", SOME + "open; point 2 1 1", """
            close 1 -> NO_STATE; point 1 1 1 -> NO_STATE; make 1 RELATION -> NO_STATE; move 1 0 1 1 1 -> NO_STATE
            change 1 3 1 -> NO_STATE; delete 1 5 1 -> NO_STATE; undo 1 1 -> NO_STATE
            """);
    }

    private static void atFirst(Script script) {
        script.run("the minute is 0 at first", "open; point 0 1 1; versionAt 0 0 -> 1; versionAt 0 1 -> NO_ARGUMENT");
        script.run("the minute is 0 at first", "pass 1 -> 1");
        script.run("the draft is empty at first", "wipe -> 0");
        script.run("the draft is empty at first", "open; point 0 1 1; refer 0 -> 1");
        script.run("the copy's minute is 0 at first", "open; point 0 1 1; pass 1; inCopy 0 -> 0; take 1 -> 1");
    }

    private static void draft(Script script) {
        String six = SOME + "refer 0; refer 1; refer 0; refer 3; refer 4; refer 5 -> 6\n";
        script.refused("the draft has up to 6 things", six, "refer 0 -> NO_STATE; refer 5 -> NO_STATE");
        script.run("the draft stays as it is", SOME + """
            refer 0; refer 1; make 0 WAY -> 6; make 0 RELATION -> 7; change 0 3 1 -> 2; change 0 5 1 -> 2
            move 0 0 1 5 5; delete 0 5 2; pass 1; take 1; close 0; open; undo 2 0; refer 2 -> 3; wipe -> 3
            """);
        script.run("the draft stays as it is by refusals", SOME + """
            refer 5; refer 4; make 0 WAY -> UNLIKE; change 0 4 1 -> RING; change 0 4 7 -> OLD; delete 0 4 1 -> USED
            make 1 RELATION -> NO_STATE; make 0 POINT -> NO_ARGUMENT; wipe -> 2; wipe -> 0
            """);
    }

    private static void firstRefusal(Script script) {
        String gone = SOME + "delete 0 5 1; delete 0 4 1; delete 0 3 1; delete 0 2 1\n";
        script.refused("GONE is ahead of OLD", gone, "move 0 2 1 5 5 -> GONE; delete 0 2 1 -> GONE; delete 0 4 3 -> GONE");
        script.refused("GONE is ahead of OLD and UNLIKE", gone, "change 0 3 1 -> GONE; change 0 4 1 -> GONE");
        script.refused("GONE is ahead of UNLIKE", gone, "change 0 3 2 -> GONE; change 0 4 2 -> GONE");
        script.refused("GONE is ahead of UNLIKE and RING", gone + "refer 4", "change 0 4 2 -> GONE");
        script.refused("GONE alone", gone + "refer 0; refer 1", """
            move 0 2 2 5 5 -> GONE; change 0 3 2 -> GONE; change 0 4 2 -> GONE; delete 0 3 2 -> GONE
            """);
        script.refused("OLD is ahead of UNLIKE", SOME, "change 0 3 2 -> OLD; change 0 3 0 -> OLD; change 0 4 2 -> OLD");
        script.refused("OLD is ahead of RING", SOME + "refer 5", "change 0 4 2 -> OLD; change 0 5 0 -> OLD");
        script.refused("OLD is ahead of USED", SOME, "delete 0 0 2 -> OLD; delete 0 3 0 -> OLD; delete 0 4 2 -> OLD");
        script.refused("OLD alone", SOME + "refer 0; refer 1; move 0 2 1 4 4; change 0 3 1; change 0 5 1", """
            move 0 2 1 5 5 -> OLD; move 0 2 3 5 5 -> OLD; change 0 3 1 -> OLD; change 0 3 3 -> OLD; delete 0 5 1 -> OLD
            delete 0 2 3 -> OLD; move 0 2 0 1 1 -> OLD; move 0 2 -1 1 1 -> OLD; move 0 2 MAX 1 1 -> OLD
            move 0 2 MIN 1 1 -> OLD; change 0 3 MAX -> OLD; change 0 3 MIN -> OLD; delete 0 5 MAX -> OLD
            delete 0 5 MIN -> OLD; delete 0 5 0 -> OLD; delete 0 5 -1 -> OLD; change 0 3 0 -> OLD; change 0 3 -1 -> OLD
            """);
        script.refused("UNLIKE is ahead of RING", SOME + "delete 0 2 1; refer 5; refer 2", "change 0 4 1 -> UNLIKE");
        script.refused("UNLIKE is ahead of RING", SOME + "delete 0 2 1; refer 2; refer 4", "change 0 4 1 -> UNLIKE");
    }

    private static void unlike(Script script) {
        String gone = SOME + "delete 0 2 1\n";
        script.refused("UNLIKE, one that is not there comes first", gone + "refer 2; refer 0; refer 1", """
            make 0 WAY -> UNLIKE; make 0 RELATION -> UNLIKE; change 0 3 1 -> UNLIKE; change 0 5 1 -> UNLIKE
            """);
        script.refused("UNLIKE, one that is not there comes last", gone + "3x refer 0; 2x refer 1; refer 2", """
            make 0 WAY -> UNLIKE; make 0 RELATION -> UNLIKE; change 0 3 1 -> UNLIKE; change 0 5 1 -> UNLIKE
            """);
        script.refused("UNLIKE, one went when it was in the draft", SOME + "refer 0; refer 2; delete 0 2 1", """
            make 0 WAY -> UNLIKE; make 0 RELATION -> UNLIKE; change 0 3 1 -> UNLIKE; change 0 5 1 -> UNLIKE
            """);
        script.run("UNLIKE no more when it is there again", SOME + """
            open; refer 0; refer 2; delete 2 2 1; close 2; make 0 WAY -> UNLIKE; open; undo 3 2 -> 0; make 0 WAY -> 6
            """);
        script.refused("UNLIKE, a way of a way", SOME + "refer 0; refer 3", "make 0 WAY -> UNLIKE; change 0 3 1 -> UNLIKE");
        script.refused("UNLIKE, a way of a relation", SOME + "refer 4; refer 0; refer 1",
                "make 0 WAY -> UNLIKE; change 0 3 1 -> UNLIKE");
        script.refused("UNLIKE, a way of a relation, last", SOME + "3x refer 0; 2x refer 1; refer 5",
                "make 0 WAY -> UNLIKE; change 0 3 1 -> UNLIKE");
    }

    private static void used(Script script) {
        script.refused("USED by a way, first and last member", SOME, "delete 0 0 1 -> USED; delete 0 1 1 -> USED");
        script.refused("USED by a relation", SOME, "delete 0 3 1 -> USED; delete 0 4 1 -> USED");
        script.run("USED only by what is there", SOME + """
            delete 0 4 1 -> USED; delete 0 5 1 -> 2; delete 0 4 1 -> 2; delete 0 3 1 -> 2; delete 0 0 1 -> 2
            """);
        script.run("USED only by the latest version", SOME + "2x refer 2; change 0 3 1; delete 0 0 1 -> 2; delete 0 2 1 -> USED");
        script.run("what is used can be moved and changed", SOME + """
            move 0 0 1 4 4 -> 2; refer 1; refer 2; change 0 3 1 -> 2; change 0 4 1 -> 2; usedBy 4 -> 1
            """);
    }
}
