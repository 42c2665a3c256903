/**
 * Each call's ranges: the last that is taken and the first that is refused, at both ends; which
 * exception it is where several apply; and that nothing has changed behind it. Promises 1 to 11.
 */
public final class LimitsTest {
    /**
     * Things 0 and 1 are points, 2 a way, 3 a relation, 4 a point that is gone, 5 a way that is gone,
     * 6 a relation that is gone; set 0 is open, set 1 closed, set 2 open; the draft has two points.
     */
    private static final String SOME = """
            3x open; point 0 10 10; point 1 20 20; refer 0; refer 1; make 0 WAY -> 2; make 1 RELATION -> 3
            point 2 30 30; make 2 WAY -> 5; make 2 RELATION -> 6; delete 2 4 1; delete 0 5 1; delete 0 6 1
            pass 2; move 0 0 1 11 11; close 1; take 1
            """;
    private static final String FULL = "open; open; close 1; 40x point 0 1 1\n";

    public static void main(String[] args) {
        Script script = new Script();
        newObject(script);
        open(script);
        close(script);
        refer(script);
        wipe(script);
        point(script);
        pointOfSeveral(script);
        make(script);
        makeOfSeveral(script);
        move(script);
        moveOfSeveral(script);
        change(script);
        delete(script);
        script.end("LimitsTest");
    }

    private static void newObject(Script script) {
        script.refused("promise 1, no things and no sets", "", """
            close 0 -> NO_INDEX; refer 0 -> NO_INDEX; point 0 0 0 -> NO_INDEX; make 0 RELATION -> NO_INDEX
            move 0 0 1 0 0 -> NO_INDEX; change 0 0 1 -> NO_INDEX; delete 0 0 1 -> NO_INDEX; undo 0 0 -> NO_INDEX
            latest 0 -> NO_INDEX; isThere 0 -> NO_INDEX; whereIs 0 -> NO_INDEX; members 0 -> NO_INDEX
            usedBy 0 -> NO_INDEX; hide 0 1 -> NO_INDEX; setOf 0 1 -> NO_INDEX; versionAt 0 0 -> NO_INDEX
            inCopy 0 -> NO_INDEX
            """);
        script.refused("promise 1, a set and no things", "open", """
            refer 0 -> NO_INDEX; move 0 0 1 0 0 -> NO_INDEX; change 0 0 1 -> NO_INDEX; delete 0 0 1 -> NO_INDEX
            make 0 WAY -> UNLIKE; make 0 RELATION -> UNLIKE; undo 0 0 -> NO_STATE; undo 0 1 -> NO_INDEX
            """);
        script.unchanged("promise 1, questions of a new object", "", """
            things -> 0; isTrue -> true; wipe -> 0; take 1 -> 0; take 100 -> 0
            inBox 0 0 99 99 POINT -> 0; inBox 0 0 99 99 WAY -> 0; inBox 0 0 99 99 RELATION -> 0
            """);
    }

    private static void open(Script script) {
        script.run("promise 2, the first and the last", "open -> 0; 18x open; open -> 19");
        script.refused("promise 2, there are 20", "20x open; point 19 1 1; close 3", "open -> NO_STATE");
        script.run("promise 2, also with 40 things and at minute 5000", FULL + "50x pass 100; open -> 2; close 2 -> 0");
    }

    private static void close(Script script) {
        script.run("promise 3, the first and the last", "20x open; close 0 -> 0; close 19 -> 0");
        script.run("promise 3, no version and many", FULL + "open; close 2 -> 0; delete 0 7 1; close 0 -> 41");
        script.refused("promise 3, no such set", SOME, """
            close 3 -> NO_INDEX; close -1 -> NO_INDEX; close 20 -> NO_INDEX; close MAX -> NO_INDEX; close MIN -> NO_INDEX
            """);
        script.refused("promise 3, no such set of 20", "20x open", "close 20 -> NO_INDEX; close -1 -> NO_INDEX");
        script.refused("promise 3, it is closed", SOME, "close 1 -> NO_STATE");
        script.refused("promise 3, it is closed, the last of 20", "20x open; close 19", "close 19 -> NO_STATE");
    }

    private static void refer(Script script) {
        script.run("promise 4, the first thing and the last", FULL + "refer 0 -> 1; refer 39 -> 2");
        script.run("promise 4, the 6th is the last", FULL + "refer 0 -> 1; 4x refer 3; refer 39 -> 6; refer 0 -> NO_STATE");
        script.run("promise 4, things that are gone and of all kinds", SOME + """
            wipe; refer 2 -> 1; refer 3 -> 2; refer 4 -> 3; refer 5 -> 4; refer 6 -> 5; refer 6 -> 6
            """);
        script.refused("promise 4, no such thing", SOME, """
            refer 7 -> NO_INDEX; refer -1 -> NO_INDEX; refer 40 -> NO_INDEX; refer MAX -> NO_INDEX; refer MIN -> NO_INDEX
            """);
        script.refused("promise 4, no such thing of 40", FULL, "refer 40 -> NO_INDEX; refer -1 -> NO_INDEX");
        script.refused("promise 4, it has 6", SOME + "4x refer 4", "refer 0 -> NO_STATE; refer 4 -> NO_STATE; refer 6 -> NO_STATE");
        script.refused("promise 4, no such thing is ahead of it has 6", SOME + "4x refer 4", """
            refer 7 -> NO_INDEX; refer -1 -> NO_INDEX; refer MAX -> NO_INDEX; refer MIN -> NO_INDEX
            """);
    }

    private static void wipe(Script script) {
        script.run("promise 5, none, one and six", FULL + "wipe -> 0; refer 39; wipe -> 1; 6x refer 0; wipe -> 6; wipe -> 0");
        script.run("promise 5, then there is room for six", FULL + "6x refer 1; wipe -> 6; 5x refer 0; refer 0 -> 6");
        script.unchanged("promise 5, an empty draft", "open; point 0 1 1", "wipe -> 0");
        script.run("promise 5, it wipes no members", SOME + "wipe -> 2; members 2 -> 2; members 3 -> 2");
    }

    private static void point(Script script) {
        script.run("promise 6, the first set and the last", "20x open; point 0 1 1 -> 0; point 19 1 1 -> 1; setOf 1 1 -> 19");
        script.run("promise 6, x and y at their ends", """
            open; point 0 0 50 -> 0; point 0 99 50 -> 1; point 0 50 0 -> 2; point 0 50 99 -> 3
            whereIs 0 -> 50; whereIs 1 -> 9950; whereIs 2 -> 5000; whereIs 3 -> 5099
            """);
        script.run("promise 6, the 40th is the last", "open; 39x point 0 1 1; point 0 1 1 -> 39; point 0 1 1 -> NO_STATE");
        script.refused("promise 6, no such set", SOME, """
            point 3 1 1 -> NO_INDEX; point -1 1 1 -> NO_INDEX; point 20 1 1 -> NO_INDEX
            point MAX 1 1 -> NO_INDEX; point MIN 1 1 -> NO_INDEX
            """);
        script.refused("promise 6, x is out of range", SOME, """
            point 0 -1 50 -> NO_ARGUMENT; point 0 100 50 -> NO_ARGUMENT
            point 0 MAX 50 -> NO_ARGUMENT; point 0 MIN 50 -> NO_ARGUMENT
            """);
        script.refused("promise 6, y is out of range", SOME, """
            point 0 50 -1 -> NO_ARGUMENT; point 0 50 100 -> NO_ARGUMENT
            point 0 50 MAX -> NO_ARGUMENT; point 0 50 MIN -> NO_ARGUMENT
            """);
        script.refused("promise 6, the set is closed", SOME, "point 1 50 50 -> NO_STATE; point 1 0 99 -> NO_STATE");
        script.refused("promise 6, there are 40 things", FULL, "point 0 50 50 -> NO_STATE");
        script.refused("promise 6, there are 40 things, some gone", FULL + "delete 0 0 1; delete 0 39 1", "point 0 50 50 -> NO_STATE");
    }

    private static void pointOfSeveral(Script script) {
        script.refused("promise 6, no such set is ahead of x and y", SOME, """
            point 3 100 50 -> NO_INDEX; point -1 50 -1 -> NO_INDEX
            """);
        script.refused("promise 6, no such set is ahead of 40 things", FULL, "point 2 50 50 -> NO_INDEX; point 2 50 100 -> NO_INDEX");
        script.refused("promise 6, x and y are ahead of a closed set", SOME, """
            point 1 100 50 -> NO_ARGUMENT; point 1 -1 50 -> NO_ARGUMENT
            point 1 50 100 -> NO_ARGUMENT; point 1 50 -1 -> NO_ARGUMENT
            """);
        script.refused("promise 6, x and y are ahead of 40 things", FULL, """
            point 0 100 50 -> NO_ARGUMENT; point 0 50 -1 -> NO_ARGUMENT; point 1 50 100 -> NO_ARGUMENT
            """);
        script.refused("promise 6, a closed set and 40 things", FULL, "point 1 50 50 -> NO_STATE");
    }

    private static void make(Script script) {
        script.run("promise 7, the first set and the last", """
            20x open; point 0 1 1; 2x refer 0; make 0 WAY -> 1; make 19 RELATION -> 2; setOf 1 1 -> 0; setOf 2 1 -> 19
            """);
        script.run("promise 7, the 40th is the last", """
            open; 38x point 0 1 1; 2x refer 37; make 0 WAY -> 38; make 0 RELATION -> 39
            make 0 WAY -> NO_STATE; make 0 RELATION -> NO_STATE; members 38 -> 2; usedBy 37 -> 2
            """);
        script.refused("promise 7, no such set", SOME, """
            make 3 WAY -> NO_INDEX; make -1 WAY -> NO_INDEX; make 20 RELATION -> NO_INDEX
            make MAX RELATION -> NO_INDEX; make MIN WAY -> NO_INDEX
            """);
        script.refused("promise 7, kind is neither", SOME, """
            make 0 POINT -> NO_ARGUMENT; make 0 3 -> NO_ARGUMENT; make 0 -1 -> NO_ARGUMENT
            make 0 MAX -> NO_ARGUMENT; make 0 MIN -> NO_ARGUMENT
            """);
        script.refused("promise 7, the set is closed", SOME, "make 1 WAY -> NO_STATE; make 1 RELATION -> NO_STATE");
        script.refused("promise 7, there are 40 things", FULL + "2x refer 39", "make 0 WAY -> NO_STATE; make 0 RELATION -> NO_STATE");
        script.refused("promise 7, the refusal UNLIKE", SOME + "wipe", "make 0 WAY -> UNLIKE; make 2 RELATION -> UNLIKE");
        script.refused("promise 7, the refusal UNLIKE of a way alone", SOME + "wipe; refer 0", "make 0 WAY -> UNLIKE");
        script.run("promise 7, no refusal of a relation of one", SOME + "wipe; refer 0; make 0 RELATION -> 7");
    }

    private static void makeOfSeveral(Script script) {
        script.refused("promise 7, no such set is ahead of kind", SOME, "make 3 POINT -> NO_INDEX; make -1 3 -> NO_INDEX");
        script.refused("promise 7, no such set is ahead of 40 things", FULL, "make 2 WAY -> NO_INDEX; make 2 POINT -> NO_INDEX");
        script.refused("promise 7, no such set is ahead of UNLIKE", SOME + "wipe", "make 3 WAY -> NO_INDEX; make -1 RELATION -> NO_INDEX");
        script.refused("promise 7, kind is ahead of a closed set", SOME, "make 1 POINT -> NO_ARGUMENT; make 1 3 -> NO_ARGUMENT");
        script.refused("promise 7, kind is ahead of 40 things", FULL, "make 0 POINT -> NO_ARGUMENT; make 0 -1 -> NO_ARGUMENT");
        script.refused("promise 7, kind is ahead of UNLIKE", SOME + "wipe", "make 0 POINT -> NO_ARGUMENT; make 0 3 -> NO_ARGUMENT");
        script.refused("promise 7, a closed set is ahead of UNLIKE", SOME + "wipe", "make 1 WAY -> NO_STATE; make 1 RELATION -> NO_STATE");
        script.refused("promise 7, 40 things are ahead of UNLIKE", FULL, "make 0 WAY -> NO_STATE; make 0 RELATION -> NO_STATE");
    }

    private static void move(Script script) {
        script.run("promise 8, the first and the last set and thing", """
            20x open; 40x point 0 1 1; move 0 0 1 2 2 -> 2; move 19 39 1 3 3 -> 2; setOf 39 2 -> 19; whereIs 39 -> 303
            """);
        script.run("promise 8, x and y at their ends", """
            open; point 0 5 5; move 0 0 1 0 50 -> 2; whereIs 0 -> 50; move 0 0 2 99 50 -> 3; whereIs 0 -> 9950
            move 0 0 3 50 0 -> 4; whereIs 0 -> 5000; move 0 0 4 50 99 -> 5; whereIs 0 -> 5099
            """);
        script.refused("promise 8, no such set", SOME, """
            move 3 0 2 1 1 -> NO_INDEX; move -1 0 2 1 1 -> NO_INDEX; move MAX 0 2 1 1 -> NO_INDEX
            move MIN 0 2 1 1 -> NO_INDEX; move 20 0 2 1 1 -> NO_INDEX
            """);
        script.refused("promise 8, no such thing", SOME, """
            move 0 7 1 1 1 -> NO_INDEX; move 0 -1 1 1 1 -> NO_INDEX; move 0 40 1 1 1 -> NO_INDEX
            move 0 MAX 1 1 1 -> NO_INDEX; move 0 MIN 1 1 1 -> NO_INDEX
            """);
        script.refused("promise 8, no such thing of 40", FULL, "move 0 40 1 1 1 -> NO_INDEX; move 0 -1 1 1 1 -> NO_INDEX");
        script.refused("promise 8, the thing is no point", SOME, "move 0 2 1 1 1 -> NO_ARGUMENT; move 0 3 1 1 1 -> NO_ARGUMENT");
        script.refused("promise 8, x or y is out of range", SOME, """
            move 0 0 2 -1 50 -> NO_ARGUMENT; move 0 0 2 100 50 -> NO_ARGUMENT; move 0 0 2 MAX 50 -> NO_ARGUMENT
            move 0 0 2 MIN 50 -> NO_ARGUMENT; move 0 0 2 50 -1 -> NO_ARGUMENT; move 0 0 2 50 100 -> NO_ARGUMENT
            move 0 0 2 50 MAX -> NO_ARGUMENT; move 0 0 2 50 MIN -> NO_ARGUMENT
            """);
        script.refused("promise 8, the set is closed", SOME, "move 1 0 2 1 1 -> NO_STATE; move 1 1 1 20 20 -> NO_STATE");
        script.refused("promise 8, GONE and OLD, any number", SOME, """
            move 0 4 2 1 1 -> GONE; move 0 4 1 1 1 -> GONE; move 0 4 3 1 1 -> GONE; move 0 4 MAX 1 1 -> GONE
            move 0 0 1 1 1 -> OLD; move 0 0 3 1 1 -> OLD; move 0 0 0 1 1 -> OLD; move 0 0 -1 1 1 -> OLD
            move 0 0 MAX 1 1 -> OLD; move 0 0 MIN 1 1 -> OLD; move 0 4 MIN 1 1 -> GONE; move 0 0 1 11 11 -> OLD
            """);
    }

    private static void moveOfSeveral(Script script) {
        script.refused("promise 8, no such set or thing is ahead of all", SOME, """
            move 3 2 1 1 1 -> NO_INDEX; move 3 0 2 100 1 -> NO_INDEX; move 0 7 1 1 -1 -> NO_INDEX; move 3 7 1 1 1 -> NO_INDEX
            move 1 7 1 1 1 -> NO_INDEX; move 1 -1 1 100 100 -> NO_INDEX; move 3 4 2 1 1 -> NO_INDEX; move 3 0 1 1 1 -> NO_INDEX
            """);
        script.refused("promise 8, no point, x and y are ahead of a closed set", SOME, """
            move 1 2 1 1 1 -> NO_ARGUMENT; move 1 3 1 1 1 -> NO_ARGUMENT; move 1 0 2 100 1 -> NO_ARGUMENT
            move 1 0 2 1 -1 -> NO_ARGUMENT; move 1 5 2 100 -1 -> NO_ARGUMENT
            """);
        script.refused("promise 8, exceptions are ahead of GONE", SOME, """
            move 0 5 2 1 1 -> NO_ARGUMENT; move 0 6 2 1 1 -> NO_ARGUMENT; move 0 4 2 100 1 -> NO_ARGUMENT
            move 0 4 2 1 -1 -> NO_ARGUMENT; move 1 4 2 1 1 -> NO_STATE
            """);
        script.refused("promise 8, exceptions are ahead of OLD", SOME, """
            move 0 2 7 1 1 -> NO_ARGUMENT; move 0 0 7 1 100 -> NO_ARGUMENT; move 1 0 7 1 1 -> NO_STATE
            """);
    }

    private static void change(Script script) {
        script.run("promise 9, the first and the last set and thing", """
            20x open; 38x point 0 1 1; 2x refer 0; make 0 WAY -> 38; make 0 RELATION -> 39; refer 1
            change 0 38 1 -> 2; change 19 39 1 -> 2; members 38 -> 3; members 39 -> 3; setOf 39 2 -> 19
            """);
        script.refused("promise 9, no such set or thing", SOME, """
            change 3 2 1 -> NO_INDEX; change -1 2 1 -> NO_INDEX; change MAX 2 1 -> NO_INDEX; change MIN 2 1 -> NO_INDEX
            change 0 7 1 -> NO_INDEX; change 0 -1 1 -> NO_INDEX; change 0 MAX 1 -> NO_INDEX; change 0 MIN 1 -> NO_INDEX
            """);
        script.refused("promise 9, no such thing of 40", FULL, "change 0 40 1 -> NO_INDEX; change 0 -1 1 -> NO_INDEX");
        script.refused("promise 9, the thing is a point", SOME, "change 0 0 2 -> NO_ARGUMENT; change 2 1 1 -> NO_ARGUMENT");
        script.refused("promise 9, the set is closed", SOME, "change 1 2 1 -> NO_STATE; change 1 3 1 -> NO_STATE");
        script.refused("promise 9, no such set or thing is ahead of all", SOME, """
            change 3 0 2 -> NO_INDEX; change 3 7 1 -> NO_INDEX; change 1 7 1 -> NO_INDEX; change 1 -1 1 -> NO_INDEX
            change 3 5 2 -> NO_INDEX; change 3 2 7 -> NO_INDEX
            """);
        script.refused("promise 9, a point is ahead of a closed set", SOME, "change 1 0 2 -> NO_ARGUMENT; change 1 4 2 -> NO_ARGUMENT");
        script.refused("promise 9, exceptions are ahead of GONE and OLD", SOME, """
            change 0 4 2 -> NO_ARGUMENT; change 0 0 7 -> NO_ARGUMENT; change 1 5 2 -> NO_STATE; change 1 2 7 -> NO_STATE
            """);
        script.refused("promise 9, a closed set is ahead of UNLIKE", SOME + "wipe", "change 1 2 1 -> NO_STATE; change 1 3 1 -> NO_STATE");
        script.refused("promise 9, a closed set is ahead of RING", SOME + "refer 3", "change 1 3 1 -> NO_STATE");
        script.refused("promise 9, a point is ahead of UNLIKE", SOME + "wipe", "change 0 0 2 -> NO_ARGUMENT");
        script.refused("promise 9, GONE, OLD, UNLIKE and RING", SOME + "refer 3", """
            change 0 5 2 -> GONE; change 0 6 2 -> GONE; change 0 5 MIN -> GONE; change 0 2 0 -> OLD; change 0 3 2 -> OLD
            change 0 2 1 -> UNLIKE; change 0 3 1 -> RING
            """);
    }

    private static void delete(Script script) {
        script.run("promise 10, the first and the last set and thing", """
            20x open; 40x point 0 1 1; delete 0 0 1 -> 2; delete 19 39 1 -> 2; setOf 39 2 -> 19; isThere 39 -> false
            """);
        script.run("promise 10, of each kind", SOME + "delete 0 3 1 -> 2; delete 0 2 1 -> 2; delete 0 1 1 -> 2; delete 0 0 2 -> 3");
        script.refused("promise 10, no such set or thing", SOME, """
            delete 3 3 1 -> NO_INDEX; delete -1 3 1 -> NO_INDEX; delete MAX 3 1 -> NO_INDEX; delete MIN 3 1 -> NO_INDEX
            delete 0 7 1 -> NO_INDEX; delete 0 -1 1 -> NO_INDEX; delete 0 MAX 1 -> NO_INDEX; delete 0 MIN 1 -> NO_INDEX
            delete 3 7 1 -> NO_INDEX
            """);
        script.refused("promise 10, no such thing of 40", FULL, "delete 0 40 1 -> NO_INDEX; delete 0 -1 1 -> NO_INDEX");
        script.refused("promise 10, the set is closed", SOME, "delete 1 3 1 -> NO_STATE");
        script.refused("promise 10, no such set or thing is ahead of all", SOME, """
            delete 1 7 1 -> NO_INDEX; delete 1 -1 1 -> NO_INDEX; delete 3 4 2 -> NO_INDEX; delete 3 0 2 -> NO_INDEX
            """);
        script.refused("promise 10, a closed set is ahead of the refusals", SOME, """
            delete 1 4 2 -> NO_STATE; delete 1 3 7 -> NO_STATE; delete 1 0 2 -> NO_STATE; delete 1 2 7 -> NO_STATE
            """);
        script.refused("promise 10, GONE, OLD and USED", SOME, """
            delete 0 4 2 -> GONE; delete 0 5 1 -> GONE; delete 0 6 MAX -> GONE; delete 0 3 2 -> OLD; delete 0 3 0 -> OLD
            delete 0 0 1 -> OLD; delete 0 0 2 -> USED; delete 0 1 1 -> USED
            """);
    }
}
