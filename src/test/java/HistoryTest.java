/** Promises 14, 15 and 19: undo, redo, count. */
public final class HistoryTest {
    private static final Due due = new Due();

    public static void main(String[] args) {
        promise14UndoEveryKindOfEdit();
        promise14FortyEdits();
        promise14AcrossSequences();
        promise15RedoEndsWithAnotherEdit();
        promise15RefusedEditsKeepRedo();
        promise15SourcesStay();
        promise19Count();
        due.end();
    }

    private static CuttingRoom room() {
        CuttingRoom room = new CuttingRoom();
        room.clip(20);
        room.sequence();
        room.sequence();
        return room;
    }

    private static String state(CuttingRoom room) {
        StringBuilder text = new StringBuilder();
        for (int sequence = 1; sequence <= 2; sequence++) {
            for (int track = 0; track < 3; track++) {
                text.append(" | ").append(Due.track(room, sequence, track));
                int events = room.event(sequence, track, CuttingRoom.NONE, 0);
                for (int i = 0; i < events; i++) {
                    text.append(' ').append(Due.looks(room, sequence, track, i));
                }
            }
        }
        return text.toString();
    }

    private static boolean edit(CuttingRoom room, int step) {
        switch (step) {
            case 0: return room.insert(1, 0, 3);
            case 1: return room.insert(1, 0, 5);
            case 2: return room.overwrite(1, 1, 6);
            case 3: return room.lift(1, 0, 6, 8);
            case 4: return room.extract(1, 4, 6);
            case 5: return room.blade(1, 1, 7);
            case 6: return room.trim(1, 1, 7, 4, 1) || room.trim(1, 1, 7, 1, -1);
            case 7: return room.cross(1, 1, 7, 1, 1);
            default: return room.style(1, 1, 7, 2, 50);
        }
    }

    /** A room after so many edits, of which some were undone and some of these done again. */
    private static CuttingRoom after(int edits, int undone, int redone) {
        CuttingRoom room = room();
        room.pick(0, 2, 6, 1, 1);
        for (int step = 0; step < edits; step++) {
            due.yes("edit " + step, edit(room, step));
        }
        for (int i = 0; i < undone; i++) {
            due.yes("undo " + i + " of " + edits, room.undo());
        }
        for (int i = 0; i < redone; i++) {
            due.yes("redo " + i + " of " + undone, room.redo());
        }
        due.is("edits", room.count(1), edits - undone + redone);
        due.is("undone edits", room.count(2), undone - redone);
        return room;
    }

    /** Each state is looked at in a room of its own, as that takes many of an object's 512 calls. */
    private static void promise14UndoEveryKindOfEdit() {
        for (int left = 0; left <= 9; left++) {
            String state = state(after(left, 0, 0));
            due.is("state with " + left + " edits left", state(after(9, 9 - left, 0)), state);
            due.is("state with " + left + " edits done again", state(after(9, 9, left)), state);
        }
        due.no("nothing is left to undo", after(9, 9, 0).undo());
        due.no("nothing is left to redo", after(9, 9, 9).redo());
    }

    private static void promise14FortyEdits() {
        CuttingRoom room = room();
        Due.lay(room, 0, 0, 10, 1, 0, 0);
        for (int level = 1; level <= 44; level++) {
            room.style(1, 0, 0, 0, level);
            due.is("edits", room.count(1), Math.min(level + 1, 40));
        }
        for (int i = 1; i <= 40; i++) {
            due.yes("undo " + i, room.undo());
            due.is("level", room.event(1, 0, 0, 8), 44 - i);
        }
        due.no("the 41st", room.undo());
        due.is("edits", room.count(1), 0);
        due.is("undone edits", room.count(2), 40);
        for (int i = 1; i <= 40; i++) {
            due.yes("redo " + i, room.redo());
        }
        due.no("redo 41", room.redo());
        due.is("level", room.event(1, 0, 0, 8), 44);
        due.is("edits", room.count(1), 40);
    }

    private static void promise14AcrossSequences() {
        CuttingRoom room = room();
        room.paint(0, 0, 0, 15, 5);
        Due.lay(room, 0, 0, 3, 1, 0, 0);
        Due.lay(room, 1, 0, 3, 2, 0, 0);
        due.is("seen", room.pixel(2, 0, 0), 5);
        due.is("depth", room.about(2, 2), 1);
        room.undo();
        due.is("not seen", room.pixel(2, 0, 0), 0);
        due.is("users of 1", room.about(1, 3), 0);
        room.undo();
        due.is("frames of 1", room.about(1, 1), 0);
        room.redo();
        room.redo();
        due.is("seen again", room.pixel(2, 0, 0), 5);
    }

    private static void promise15RedoEndsWithAnotherEdit() {
        CuttingRoom room = room();
        Due.lay(room, 0, 0, 3, 1, 0, 0);
        Due.lay(room, 0, 0, 3, 1, 0, 10);
        room.undo();
        due.yes("another edit", room.overwrite(2, 0, 20));
        due.no("redo", room.redo());
        due.is("undone edits", room.count(2), 0);
        due.is("edits", room.count(1), 2);
        room.undo();
        due.is("2 is empty", Due.track(room, 2, 0), "");
        due.is("1 is not", Due.track(room, 1, 0), "0.0.0.0.3");
    }

    private static void promise15RefusedEditsKeepRedo() {
        CuttingRoom room = room();
        Due.lay(room, 0, 0, 3, 1, 0, 0);
        Due.lay(room, 0, 0, 3, 1, 0, 10);
        room.undo();
        due.no("a refused edit", room.blade(1, 0, 0));
        due.no("a refused edit", room.overwrite(1, 0, 199));
        room.pick(0, 1, 1, 1, 1);
        due.yes("redo", room.redo());
        due.is("track", Due.track(room, 1, 0), "0.0.0.0.3 0.0.0.10.3");
    }

    private static void promise15SourcesStay() {
        CuttingRoom room = room();
        Due.lay(room, 0, 0, 3, 1, 0, 0);
        room.undo();
        room.clip(3);
        room.sequence();
        due.is("undone edits", room.count(2), 1);
        due.yes("redo", room.redo());
        due.yes("undo", room.undo());
        due.is("sources", room.count(0), 5);
    }

    private static void promise19Count() {
        CuttingRoom room = room();
        due.is("sources", room.count(0), 3);
        Due.lay(room, 0, 0, 3, 1, 0, 0);
        due.is("edits", room.count(1), 1);
        due.is("undone edits", room.count(2), 0);
        room.undo();
        due.is("edits", room.count(1), 0);
        due.is("undone edits", room.count(2), 1);
        for (int what : new int[] {3, -1, Integer.MAX_VALUE, Integer.MIN_VALUE}) {
            due.is("count of " + what, room.count(what), CuttingRoom.NONE);
        }
    }
}
