/** Promises 22 to 25: minutes and the copy. */
public final class CopyTest {
    public static void main(String[] args) {
        Script script = new Script();
        pass(script);
        take(script);
        inCopy(script);
        isTrue(script);
        script.end("CopyTest");
    }

    private static void pass(Script script) {
        script.run("promise 22, the minute then", """
            pass 1 -> 1; pass 100 -> 101; pass 7 -> 108
            pass 0 -> NO_ARGUMENT; pass -1 -> NO_ARGUMENT; pass 101 -> NO_ARGUMENT
            pass 2147483647 -> NO_ARGUMENT; pass -2147483648 -> NO_ARGUMENT
            pass 1 -> 109
            """);
        script.run("promise 22, at most 5000", """
            49x pass 100
            pass 99 -> 4999
            pass 2 -> NO_STATE; pass 100 -> NO_STATE
            pass 101 -> NO_ARGUMENT; pass 0 -> NO_ARGUMENT
            pass 1 -> 5000
            pass 1 -> NO_STATE
            pass 0 -> NO_ARGUMENT; pass 101 -> NO_ARGUMENT
            """);
    }

    private static void take(Script script) {
        script.run("promise 23, minutes that are over", """
            open; point 0 1 1; point 0 2 2
            take 1 -> 0      # minute 0 is not over
            pass 1; move 0 0 1 3 3; move 0 0 2 4 4; pass 1; delete 0 1 1; pass 1; pass 1; point 0 5 5
            take 1 -> 2
            take 1 -> 2
            take 2 -> 1
            take 1 -> 0
            pass 1
            take 1 -> 1
            take 100 -> 0
            """);
        script.run("promise 23, several minutes at once, at most now", """
            open; point 0 1 1; pass 50; point 0 2 2; pass 50; point 0 3 3; pass 50; point 0 4 4
            take 51 -> 2
            take 100 -> 1      # to minute 150, which is not over
            point 0 5 5
            pass 1
            take 1 -> 2
            """);
        script.run("promise 23, its minute does not go ahead of now", """
            open; take 100 -> 0; pass 1; point 0 1 1; inCopy 0 -> 0; take 1 -> 0; isTrue -> false
            pass 1; inCopy 0 -> 0; take 1 -> 1; isTrue -> true
            """);
        script.run("promise 23, hidden versions and undone sets", """
            2x open
            point 0 1 1; move 0 0 1 2 2; hide 0 1; close 0; undo 1 0; pass 1
            take 1 -> 3
            """);
        script.run("promise 23, wrong inputs", """
            open; point 0 1 1; pass 100
            take 0 -> NO_ARGUMENT; take -1 -> NO_ARGUMENT; take 101 -> NO_ARGUMENT
            take 2147483647 -> NO_ARGUMENT; take -2147483648 -> NO_ARGUMENT
            inCopy 0 -> 0
            take 100 -> 1
            """);
        script.run("promise 23, to the last minute", """
            open; 50x pass 100; point 0 1 1
            50x take 100 -> 0
            inCopy 0 -> 0; isTrue -> false
            take 1 -> 0
            """);
    }

    private static void inCopy(Script script) {
        script.run("promise 24, the latest version in it", """
            open; point 0 1 1; move 0 0 1 2 2; pass 1; move 0 0 2 3 3; point 0 9 9; pass 1; delete 0 0 3
            inCopy 0 -> 0; inCopy 1 -> 0
            take 1; inCopy 0 -> 2; inCopy 1 -> 0
            take 1; inCopy 0 -> 3; inCopy 1 -> 1
            take 1; inCopy 0 -> 3
            pass 1; inCopy 0 -> 3
            take 1; inCopy 0 -> 4; inCopy 1 -> 1
            hide 0 3; inCopy 0 -> 4
            """);
        script.run("promise 24, a version that is hidden", """
            open; point 0 1 1; pass 1; move 0 0 1 2 2; hide 0 1; take 1; inCopy 0 -> 1
            """);
        script.run("promise 24, no such thing", """
            inCopy 0 -> NO_INDEX
            open; point 0 1 1; inCopy 1 -> NO_INDEX; inCopy -1 -> NO_INDEX; inCopy 40 -> NO_INDEX
            inCopy 2147483647 -> NO_INDEX; inCopy -2147483648 -> NO_INDEX
            """);
    }

    private static void isTrue(Script script) {
        script.run("promise 25, all things", """
            isTrue -> true
            open; isTrue -> true
            pass 5; isTrue -> true
            point 0 1 1; isTrue -> false
            pass 1; isTrue -> false
            take 5; isTrue -> false
            take 1; isTrue -> true
            point 0 2 2; isTrue -> false
            pass 1; take 1; isTrue -> true
            move 0 0 1 3 3; isTrue -> false
            pass 1; take 1; isTrue -> true
            delete 0 0 2; isTrue -> false
            pass 1; take 1; isTrue -> true
            pass 100; isTrue -> true
            """);
        script.run("promise 25, one thing is behind", """
            open; point 0 1 1; point 0 2 2; pass 1; take 1; isTrue -> true
            move 0 1 1 3 3; isTrue -> false; inCopy 0 -> 1; inCopy 1 -> 1
            """);
        script.run("promise 25, the first thing is behind", """
            open; point 0 1 1; point 0 2 2; pass 1; take 1
            move 0 0 1 3 3; isTrue -> false
            """);
    }
}
