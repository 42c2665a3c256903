/** Makes a call that is told by its name and arguments, and tells its answer as a text. */
final class Calls {
    private Calls() {
    }

    /**
     * Answers a number, true or false, or throws. and the exception's name. What the library throws
     * in the class's stead bears the library's name too, as the class is to throw by itself.
     */
    static String answer(MapRevisions map, String name, int... a) {
        try {
            return String.valueOf(call(map, name, a));
        } catch (RuntimeException thrown) {
            StackTraceElement[] from = thrown.getStackTrace();
            boolean own = from.length > 0 && from[0].getClassName().startsWith("MapRevisions");
            return "throws." + thrown.getClass().getSimpleName() + (own ? "" : " from the library");
        }
    }

    private static Object call(MapRevisions map, String name, int[] a) {
        return switch (name) {
            case "open" -> map.open();
            case "close" -> map.close(a[0]);
            case "refer" -> map.refer(a[0]);
            case "wipe" -> map.wipe();
            case "point" -> map.point(a[0], a[1], a[2]);
            case "make" -> map.make(a[0], a[1]);
            case "move" -> map.move(a[0], a[1], a[2], a[3], a[4]);
            case "change" -> map.change(a[0], a[1], a[2]);
            case "delete" -> map.delete(a[0], a[1], a[2]);
            case "undo" -> map.undo(a[0], a[1]);
            case "things" -> map.things();
            case "latest" -> map.latest(a[0]);
            case "isThere" -> map.isThere(a[0]);
            case "whereIs" -> map.whereIs(a[0]);
            case "members" -> map.members(a[0]);
            case "usedBy" -> map.usedBy(a[0]);
            case "hide" -> map.hide(a[0], a[1]);
            case "setOf" -> map.setOf(a[0], a[1]);
            case "versionAt" -> map.versionAt(a[0], a[1]);
            case "inBox" -> map.inBox(a[0], a[1], a[2], a[3], a[4]);
            case "pass" -> map.pass(a[0]);
            case "take" -> map.take(a[0]);
            case "inCopy" -> map.inCopy(a[0]);
            case "isTrue" -> map.isTrue();
            default -> throw new Error("no call is named " + name);
        };
    }
}
