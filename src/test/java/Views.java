import java.util.ArrayList;
import java.util.List;
import java.util.function.Supplier;

/**
 * What can be seen of a room: all counts and facts, all pictures of clips, one pixel of each frame of a sequence, how
 * far it goes to undo and redo, and what is picked. Each part is looked at in a room of its own, to keep to its calls.
 */
final class Views {
    private static final int PICTURES_AT_ONCE = 16;

    private final Supplier<Room> maker;
    private final List<String> views = new ArrayList<>();

    private Views(Supplier<Room> maker) {
        this.maker = maker;
    }

    /** What is seen of a room; the maker makes the same one each time. */
    static List<String> of(Supplier<Room> maker) {
        Views seen = new Views(maker);
        int sources = seen.number("count 0");
        for (int s = 0; s < sources; s++) {
            boolean isSequence = seen.number("about " + s + " 0") == 1;
            seen.lookAt(s, isSequence);
        }
        seen.views.add("counts and facts: " + factsOf(maker.get()));
        seen.views.add("undone: " + walk(maker.get(), "undo"));
        seen.views.add("done again: " + walk(maker.get(), "redo"));
        seen.views.add("picked: " + picked(maker.get()));
        return seen.views;
    }

    private int number(String words) {
        return Integer.parseInt(maker.get().answer(words));
    }

    private void lookAt(int source, boolean isSequence) {
        if (!isSequence) {
            int pictures = number("about " + source + " 1");
            for (int first = 0; first < pictures; first += PICTURES_AT_ONCE) {
                int end = Math.min(pictures, first + PICTURES_AT_ONCE);
                views.add("pictures of " + source + ": " + picturesOf(maker.get(), source, first, end));
            }
            return;
        }
        for (int track = 0; track < 3; track++) {
            views.add("track " + track + " of " + source + ": " + trackOf(maker.get(), source, track));
        }
        views.add("frames of " + source + ": " + framesOf(maker.get(), source));
    }

    private static String picturesOf(Room room, int clip, int first, int end) {
        StringBuilder text = new StringBuilder();
        for (int picture = first; picture < end; picture++) {
            for (int pixel = 0; pixel < 16; pixel++) {
                text.append(' ').append(room.call("pixel", clip, picture, pixel));
            }
        }
        return text.toString();
    }

    private static String framesOf(Room room, int sequence) {
        StringBuilder text = new StringBuilder();
        for (int frame = -1; frame <= 200; frame++) {
            text.append(' ').append(room.call("pixel", sequence, frame, frame & 15));
        }
        return text.toString();
    }

    private static String trackOf(Room room, int sequence, int track) {
        StringBuilder text = new StringBuilder();
        int events = Integer.parseInt(room.call("event", sequence, track, CuttingRoom.NONE, 0));
        for (int i = 0; i < events; i++) {
            text.append(' ').append(room.facts(sequence, track, i, 0, 10));
        }
        return text.toString();
    }

    private static String factsOf(Room room) {
        StringBuilder text = new StringBuilder();
        int sources = Integer.parseInt(room.call("count", 0));
        text.append(sources).append(' ').append(room.call("count", 1)).append(' ').append(room.call("count", 2));
        for (int s = 0; s < sources; s++) {
            for (int what = 0; what <= 3; what++) {
                text.append(what == 0 ? " " : ".").append(room.call("about", s, what));
            }
        }
        return text.toString();
    }

    /** How far it goes to undo or redo, and what is there then. */
    private static String walk(Room room, String step) {
        int steps = 0;
        while (room.call(step).equals("true")) {
            steps++;
        }
        return steps + " " + factsOf(room);
    }

    /** What is laid by the next edit, in a new sequence if there can be one. */
    private static String picked(Room room) {
        String made = room.call("sequence");
        int sequence = made.startsWith("Illegal") ? 15 : Integer.parseInt(made);
        String laid = room.call("overwrite", sequence, 0, 0);
        return laid + (laid.equals("true") ? " " + room.facts(sequence, 0, 0, 0, 10) : "");
    }

    /** A call of style that is not refused, of the first event that there is; empty if there is none. */
    static String goodEdit(Room room) {
        int sources = Integer.parseInt(room.call("count", 0));
        for (int place = 0; place < 3 * sources; place++) {
            int source = place / 3;
            int track = place % 3;
            String start = room.call("event", source, track, 0, 3);
            if (!start.endsWith("Exception")) {
                boolean isNew = !room.facts(source, track, 0, 7, 8).equals("1.1");
                return "style " + source + " " + track + " " + start + (isNew ? " 1 1" : " 2 2");
            }
        }
        return "";
    }
}
