/** Promises 6 to 10: making things and versions, and what is refused. */
public final class MakingTest {
    public static void main(String[] args) {
        Script script = new Script();
        point(script);
        make(script);
        makeRefused(script);
        makeWrong(script);
        move(script);
        moveWrong(script);
        change(script);
        changeRefused(script);
        changeInRing(script);
        changeWrong(script);
        delete(script);
        deleteWrong(script);
        script.end("MakingTest");
    }

    private static void point(Script script) {
        script.run("promise 6, numbers and places", """
            2x open
            point 0 0 0 -> 0; point 1 99 99 -> 1; point 0 0 99 -> 2; point 1 12 3 -> 3
            whereIs 0 -> 0; whereIs 1 -> 9999; whereIs 2 -> 99; whereIs 3 -> 1203
            latest 3 -> 1; isThere 3 -> true; setOf 2 1 -> 0; setOf 3 1 -> 1; things -> 4
            """);
        script.run("promise 6, at most 40 things", """
            open; 39x point 0 5 5
            point 0 6 6 -> 39
            point 0 7 7 -> NO_STATE
            delete 0 39 1 -> 2
            point 0 7 7 -> NO_STATE
            things -> 40
            close 0 -> 41
            """);
        script.run("promise 6, wrong inputs", """
            point 0 1 1 -> NO_INDEX
            open
            point -1 1 1 -> NO_INDEX; point 1 1 1 -> NO_INDEX; point 2147483647 1 1 -> NO_INDEX
            point 0 -1 0 -> NO_ARGUMENT; point 0 100 0 -> NO_ARGUMENT
            point 0 0 -1 -> NO_ARGUMENT; point 0 0 100 -> NO_ARGUMENT
            point 0 2147483647 0 -> NO_ARGUMENT; point 0 0 -2147483648 -> NO_ARGUMENT
            point 1 100 0 -> NO_INDEX
            things -> 0
            close 0 -> 0
            point 0 1 1 -> NO_STATE
            point 0 100 1 -> NO_ARGUMENT
            point 0 1 -1 -> NO_ARGUMENT
            point 1 100 0 -> NO_INDEX
            things -> 0
            """);
        script.run("promise 6, which one with 40 things", """
            open; 40x point 0 5 5
            point 1 100 0 -> NO_INDEX; point 0 100 0 -> NO_ARGUMENT; point 0 0 0 -> NO_STATE
            """);
    }

    private static void make(Script script) {
        script.run("promise 7, ways and relations", """
            2x open
            point 0 1 1; point 0 2 2; refer 0; refer 1
            make 0 WAY -> 2
            make 1 RELATION -> 3
            members 2 -> 2; members 3 -> 2; latest 2 -> 1; isThere 3 -> true
            setOf 2 1 -> 0; setOf 3 1 -> 1
            wipe; refer 3
            make 0 RELATION -> 4
            members 4 -> 1
            wipe; refer 2; refer 3; refer 0; refer 2; refer 4; refer 1
            make 0 RELATION -> 5
            members 5 -> 6
            things -> 6
            """);
        script.run("promise 7, the same member several times", """
            open; point 0 1 1; refer 0; refer 0
            make 0 WAY -> 1
            members 1 -> 2; usedBy 0 -> 1
            4x refer 0
            make 0 WAY -> 2
            members 2 -> 6; usedBy 0 -> 2
            """);
        script.run("promise 7, the members stay when the draft is wiped", """
            open; point 0 1 1; point 0 2 2; refer 0; refer 0; make 0 WAY -> 2
            wipe; refer 1; refer 1; refer 1
            members 2 -> 2; usedBy 0 -> 1; usedBy 1 -> 0
            """);
    }

    private static void makeRefused(Script script) {
        script.run("promise 7, too few", """
            open; make 0 WAY -> UNLIKE; make 0 RELATION -> UNLIKE
            point 0 1 1; refer 0
            make 0 WAY -> UNLIKE
            make 0 RELATION -> 1
            things -> 2
            """);
        script.run("promise 7, one that is gone", """
            open; point 0 1 1; point 0 2 2; delete 0 1 1 -> 2
            refer 0; refer 1
            make 0 WAY -> UNLIKE
            make 0 RELATION -> UNLIKE
            things -> 2
            """);
        script.run("promise 7, a way of what is no point", """
            open; point 0 1 1; point 0 2 2; refer 0; refer 1; make 0 WAY -> 2; make 0 RELATION -> 3
            refer 2
            make 0 WAY -> UNLIKE
            make 0 RELATION -> 4
            wipe; refer 0; refer 3; refer 1
            make 0 WAY -> UNLIKE
            wipe; refer 2; refer 2
            make 0 WAY -> UNLIKE
            things -> 5
            """);
    }

    private static void makeWrong(Script script) {
        script.run("promise 7, wrong inputs", """
            make 0 WAY -> NO_INDEX
            open; point 0 1 1; refer 0; refer 0
            make -1 WAY -> NO_INDEX; make 1 WAY -> NO_INDEX; make 1 POINT -> NO_INDEX
            make 0 POINT -> NO_ARGUMENT; make 0 3 -> NO_ARGUMENT; make 0 -1 -> NO_ARGUMENT
            make 0 2147483647 -> NO_ARGUMENT; make 0 -2147483648 -> NO_ARGUMENT
            close 0 -> 1
            make 0 WAY -> NO_STATE; make 0 RELATION -> NO_STATE
            make 0 POINT -> NO_ARGUMENT
            make 1 POINT -> NO_INDEX
            wipe
            make 0 WAY -> NO_STATE
            things -> 1
            """);
        script.run("promise 7, 40 things", """
            open; 38x point 0 5 5; refer 0; refer 0; make 0 WAY -> 38; make 0 RELATION -> 39
            make 0 WAY -> NO_STATE; make 0 RELATION -> NO_STATE; make 0 POINT -> NO_ARGUMENT
            wipe
            make 0 WAY -> NO_STATE
            things -> 40
            """);
    }

    private static void move(Script script) {
        script.run("promise 8, new versions", """
            2x open
            point 0 1 1
            move 1 0 1 0 99 -> 2
            whereIs 0 -> 99; latest 0 -> 2; setOf 0 2 -> 1
            move 0 0 2 99 0 -> 3
            whereIs 0 -> 9900
            move 0 0 3 99 0 -> 4      # to where it is
            latest 0 -> 4
            """);
        script.run("promise 8, refusals", """
            open; point 0 1 1; move 0 0 1 2 2 -> 2
            move 0 0 1 3 3 -> OLD; move 0 0 0 3 3 -> OLD; move 0 0 3 3 3 -> OLD
            move 0 0 -1 3 3 -> OLD; move 0 0 2147483647 3 3 -> OLD; move 0 0 -2147483648 3 3 -> OLD
            whereIs 0 -> 202; latest 0 -> 2
            delete 0 0 2 -> 3
            move 0 0 3 3 3 -> GONE; move 0 0 2 3 3 -> GONE; move 0 0 9 3 3 -> GONE
            latest 0 -> 3; isThere 0 -> false
            """);
        script.run("promise 8, a point that is used", """
            open; point 0 1 1; refer 0; refer 0; make 0 WAY -> 1
            move 0 0 1 9 9 -> 2
            usedBy 0 -> 1
            """);
    }

    private static void moveWrong(Script script) {
        script.run("promise 8, wrong inputs", """
            move 0 0 1 1 1 -> NO_INDEX
            open; point 0 1 1; refer 0; refer 0; make 0 WAY -> 1; make 0 RELATION -> 2
            move 1 0 1 1 1 -> NO_INDEX; move -1 0 1 1 1 -> NO_INDEX
            move 0 3 1 1 1 -> NO_INDEX; move 0 -1 1 1 1 -> NO_INDEX
            move 0 3 1 100 1 -> NO_INDEX; move 1 1 1 1 1 -> NO_INDEX
            move 0 1 1 1 1 -> NO_ARGUMENT; move 0 2 1 1 1 -> NO_ARGUMENT
            move 0 0 1 100 0 -> NO_ARGUMENT; move 0 0 1 -1 0 -> NO_ARGUMENT
            move 0 0 1 0 100 -> NO_ARGUMENT; move 0 0 1 0 -1 -> NO_ARGUMENT
            move 0 0 7 0 100 -> NO_ARGUMENT      # an exception is ahead of a refusal
            close 0 -> 3
            move 0 0 1 1 1 -> NO_STATE; move 0 0 7 1 1 -> NO_STATE
            move 0 0 1 100 1 -> NO_ARGUMENT; move 0 1 1 1 1 -> NO_ARGUMENT
            move 0 3 1 1 1 -> NO_INDEX; move 1 0 1 1 1 -> NO_INDEX
            latest 0 -> 1; whereIs 0 -> 101
            """);
        script.run("promise 8, a way that is gone is no point", """
            open; point 0 1 1; refer 0; refer 0; make 0 WAY -> 1; delete 0 1 1
            move 0 1 2 1 1 -> NO_ARGUMENT
            """);
    }

    private static void change(Script script) {
        script.run("promise 9, new members", """
            2x open
            point 0 1 1; point 0 2 2; point 0 3 3; refer 0; refer 1; make 0 WAY -> 3; make 0 RELATION -> 4
            wipe; refer 2; refer 2; refer 1
            change 1 3 1 -> 2
            members 3 -> 3; setOf 3 2 -> 1; usedBy 0 -> 1; usedBy 1 -> 2; usedBy 2 -> 1
            wipe; refer 3
            change 0 4 1 -> 2
            members 4 -> 1; usedBy 0 -> 0; usedBy 1 -> 1; usedBy 3 -> 1
            change 0 4 2 -> 3     # to those that it has
            latest 4 -> 3
            """);
        script.run("promise 9, which refusal is first", """
            open; point 0 1 1; refer 0; make 0 RELATION -> 1; wipe
            change 0 1 2 -> OLD
            change 0 1 1 -> UNLIKE
            refer 1; refer 1
            change 0 1 0 -> OLD
            change 0 1 1 -> RING
            delete 0 1 1 -> 2
            change 0 1 1 -> GONE
            change 0 1 2 -> GONE
            """);
    }

    private static void changeRefused(Script script) {
        script.run("promise 9, GONE and OLD", """
            open; point 0 1 1; refer 0; refer 0; make 0 WAY -> 1
            change 0 1 0 -> OLD; change 0 1 2 -> OLD; change 0 1 -1 -> OLD
            change 0 1 2147483647 -> OLD; change 0 1 -2147483648 -> OLD
            change 0 1 1 -> 2
            change 0 1 1 -> OLD
            delete 0 1 2 -> 3
            change 0 1 3 -> GONE; change 0 1 2 -> GONE
            latest 1 -> 3
            """);
        script.run("promise 9, UNLIKE for a way", """
            open; point 0 1 1; point 0 2 2; refer 0; refer 0; make 0 WAY -> 2; make 0 RELATION -> 3
            wipe
            change 0 2 1 -> UNLIKE
            refer 0
            change 0 2 1 -> UNLIKE
            refer 2
            change 0 2 1 -> UNLIKE      # itself is no point
            wipe; refer 0; refer 3
            change 0 2 1 -> UNLIKE
            wipe; refer 0; refer 1; delete 0 1 1 -> 2
            change 0 2 1 -> UNLIKE
            members 2 -> 2; latest 2 -> 1
            """);
        script.run("promise 9, UNLIKE for a relation", """
            open; point 0 1 1; point 0 2 2; refer 0; make 0 RELATION -> 2
            wipe
            change 0 2 1 -> UNLIKE
            refer 0; refer 1; delete 0 1 1 -> 2
            change 0 2 1 -> UNLIKE
            refer 2
            change 0 2 1 -> UNLIKE      # it would be in a ring too
            latest 2 -> 1; members 2 -> 1
            """);
    }

    private static void changeInRing(Script script) {
        script.run("promise 9, itself", """
            open; point 0 1 1; refer 0; make 0 RELATION -> 1; refer 1
            change 0 1 1 -> RING
            wipe; refer 1
            change 0 1 1 -> RING
            latest 1 -> 1; usedBy 1 -> 0
            """);
        script.run("promise 9, a long ring", """
            open; point 0 1 1; refer 0; make 0 RELATION -> 1
            wipe; refer 1; make 0 RELATION -> 2
            wipe; refer 0; refer 2; make 0 RELATION -> 3
            wipe; refer 3; refer 0; make 0 RELATION -> 4
            wipe; refer 0; refer 4
            change 0 1 1 -> RING
            change 0 2 1 -> RING
            change 0 3 1 -> RING
            change 0 4 1 -> RING
            delete 0 4 1 -> 2
            change 0 3 1 -> UNLIKE
            wipe; refer 0; refer 3
            change 0 1 1 -> RING
            change 0 2 1 -> RING
            wipe; refer 0
            change 0 3 1 -> 2
            wipe; refer 3
            change 0 1 1 -> 2
            wipe; refer 2
            change 0 3 2 -> RING
            """);
        script.run("promise 9, a ring of all 39 relations", longestRing());
        script.run("promise 9, two ways to one relation are no ring", """
            open; point 0 1 1; refer 0; make 0 RELATION -> 1
            wipe; refer 1; make 0 RELATION -> 2; make 0 RELATION -> 3
            wipe; refer 2; refer 3; refer 1; refer 1
            make 0 RELATION -> 4
            change 0 4 1 -> 2
            wipe; refer 1; refer 2
            change 0 3 1 -> 2
            wipe; refer 3
            change 0 2 1 -> RING
            """);
        script.run("promise 9, an older version's members make no ring", """
            open; point 0 1 1; refer 0; make 0 RELATION -> 1
            wipe; refer 1; make 0 RELATION -> 2
            wipe; refer 0; change 0 2 1 -> 2
            wipe; refer 2
            change 0 1 1 -> 2
            """);
    }

    /** Each relation uses the one ahead of it, and the first one is to use the last. */
    private static String longestRing() {
        StringBuilder text = new StringBuilder("open; point 0 1 1; refer 0; make 0 RELATION -> 1\n");
        for (int relation = 2; relation < 40; relation++) {
            text.append("wipe; refer ").append(relation - 1).append("; make 0 RELATION\n");
        }
        text.append("wipe; refer 39; change 0 1 1 -> RING\n");
        text.append("wipe; refer 0; change 0 20 1 -> 2\n");
        text.append("wipe; refer 39; change 0 1 1 -> 2\n");
        text.append("wipe; refer 19; change 0 20 2 -> RING\n");
        return text.toString();
    }

    private static void changeWrong(Script script) {
        script.run("promise 9, wrong inputs", """
            change 0 0 1 -> NO_INDEX
            open; point 0 1 1; refer 0; make 0 RELATION -> 1
            change 1 1 1 -> NO_INDEX; change -1 1 1 -> NO_INDEX
            change 0 2 1 -> NO_INDEX; change 0 -1 1 -> NO_INDEX; change 1 0 1 -> NO_INDEX
            change 0 0 1 -> NO_ARGUMENT; change 0 0 7 -> NO_ARGUMENT
            delete 0 1 1; delete 0 0 1
            change 0 0 2 -> NO_ARGUMENT
            close 0 -> 4
            change 0 1 2 -> NO_STATE; change 0 1 7 -> NO_STATE
            change 0 0 2 -> NO_ARGUMENT
            change 0 2 1 -> NO_INDEX; change 1 0 1 -> NO_INDEX
            latest 1 -> 2
            """);
    }

    private static void delete(Script script) {
        script.run("promise 10, its new version is gone", """
            2x open
            point 0 1 1; refer 0; refer 0; make 0 WAY -> 1; make 0 RELATION -> 2
            delete 1 1 1 -> 2
            isThere 1 -> false; latest 1 -> 2; setOf 1 2 -> 1; members 1 -> 0; usedBy 0 -> 1
            delete 0 2 1 -> 2
            isThere 2 -> false; usedBy 0 -> 0
            delete 0 0 1 -> 2
            isThere 0 -> false; things -> 3
            """);
        script.run("promise 10, GONE and OLD", """
            open; point 0 1 1; move 0 0 1 2 2
            delete 0 0 1 -> OLD; delete 0 0 0 -> OLD; delete 0 0 3 -> OLD
            delete 0 0 2147483647 -> OLD; delete 0 0 -2147483648 -> OLD
            isThere 0 -> true
            delete 0 0 2 -> 3
            delete 0 0 3 -> GONE; delete 0 0 2 -> GONE
            latest 0 -> 3
            """);
        script.run("promise 10, USED", """
            open; point 0 1 1; refer 0; refer 0; make 0 WAY -> 1
            wipe; refer 1; make 0 RELATION -> 2
            wipe; refer 2; make 0 RELATION -> 3
            delete 0 0 1 -> USED; delete 0 1 1 -> USED; delete 0 2 1 -> USED
            delete 0 0 7 -> OLD      # ahead of USED
            latest 0 -> 1; latest 1 -> 1; latest 2 -> 1
            delete 0 3 1 -> 2
            delete 0 1 1 -> USED
            wipe; refer 0; change 0 2 1 -> 2
            delete 0 1 1 -> 2
            delete 0 0 1 -> USED
            delete 0 2 2 -> 3
            delete 0 0 1 -> 2
            """);
    }

    private static void deleteWrong(Script script) {
        script.run("promise 10, wrong inputs", """
            delete 0 0 1 -> NO_INDEX
            open; point 0 1 1; refer 0; make 0 RELATION -> 1
            delete 1 1 1 -> NO_INDEX; delete -1 1 1 -> NO_INDEX
            delete 0 2 1 -> NO_INDEX; delete 0 -1 1 -> NO_INDEX
            close 0 -> 2
            delete 0 1 1 -> NO_STATE; delete 0 0 1 -> NO_STATE; delete 0 1 7 -> NO_STATE
            delete 0 2 1 -> NO_INDEX; delete 1 0 1 -> NO_INDEX
            isThere 1 -> true
            """);
    }
}
