/**
 * A room whose calls are told in words ("clip 20", "pixel 1 0 MAX") and answered in words. It takes no more calls
 * than the document promises answers for, so that no test leans on what is free.
 */
final class Room {
    private static final int MOST_CALLS = 512;

    private final CuttingRoom room = new CuttingRoom();
    private int calls = 0;

    /** The answer: a number, true, false, done (of pick), or the simple name of what was thrown. */
    String answer(String words) {
        String[] word = words.trim().split(" +");
        int[] a = new int[word.length - 1];
        for (int i = 0; i < a.length; i++) {
            a[i] = number(word[i + 1]);
        }
        switch (word[0]) {
            case "track":
                return track(a[0], a[1]);
            case "looks":
                return facts(a[0], a[1], a[2], 5, 10);
            default:
                return call(word[0], a);
        }
    }

    private static int number(String word) {
        switch (word) {
            case "MAX":
                return Integer.MAX_VALUE;
            case "MIN":
                return Integer.MIN_VALUE;
            case "NONE":
                return CuttingRoom.NONE;
            default:
                return Integer.decode(word);
        }
    }

    /** A track's events, each as source.entry.skip.start.length. */
    private String track(int sequence, int track) {
        StringBuilder text = new StringBuilder();
        int events = Integer.parseInt(call("event", sequence, track, CuttingRoom.NONE, 0));
        for (int i = 0; i < events; i++) {
            text.append(i == 0 ? "" : " ").append(facts(sequence, track, i, 0, 4));
        }
        return text.toString();
    }

    /** Some facts of an event, with points between them. */
    String facts(int sequence, int track, int i, int first, int last) {
        StringBuilder text = new StringBuilder();
        for (int what = first; what <= last; what++) {
            text.append(what == first ? "" : ".").append(call("event", sequence, track, i, what));
        }
        return text.toString();
    }

    String call(String name, int... a) {
        calls++;
        if (calls > MOST_CALLS) {
            throw new AssertionError("the test makes more than 512 calls of one object");
        }
        try {
            return isEdit(name) ? Boolean.toString(edit(name, a)) : otherCall(name, a);
        } catch (RuntimeException e) {
            return e.getClass().getSimpleName();
        }
    }

    private static boolean isEdit(String name) {
        return " insert overwrite lift extract blade trim cross style ".contains(" " + name + " ");
    }

    private boolean edit(String name, int[] a) {
        switch (name) {
            case "insert": return room.insert(a[0], a[1], a[2]);
            case "overwrite": return room.overwrite(a[0], a[1], a[2]);
            case "lift": return room.lift(a[0], a[1], a[2], a[3]);
            case "extract": return room.extract(a[0], a[1], a[2]);
            case "blade": return room.blade(a[0], a[1], a[2]);
            case "trim": return room.trim(a[0], a[1], a[2], a[3], a[4]);
            case "cross": return room.cross(a[0], a[1], a[2], a[3], a[4]);
            default: return room.style(a[0], a[1], a[2], a[3], a[4]);
        }
    }

    private String otherCall(String name, int[] a) {
        switch (name) {
            case "clip": return Integer.toString(room.clip(a[0]));
            case "sequence": return Integer.toString(room.sequence());
            case "paint": return Boolean.toString(room.paint(a[0], a[1], a[2], a[3], a[4]));
            case "pick": room.pick(a[0], a[1], a[2], a[3], a[4]); return "done";
            case "undo": return Boolean.toString(room.undo());
            case "redo": return Boolean.toString(room.redo());
            case "pixel": return Integer.toString(room.pixel(a[0], a[1], a[2]));
            case "event": return Integer.toString(room.event(a[0], a[1], a[2], a[3]));
            case "about": return Integer.toString(room.about(a[0], a[1]));
            case "count": return Integer.toString(room.count(a[0]));
            default: throw new AssertionError("no such call: " + name);
        }
    }
}
