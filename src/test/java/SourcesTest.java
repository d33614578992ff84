/** Promises 1 to 4: a new object, clip, sequence, paint. */
public final class SourcesTest {
    private static final Due due = new Due();

    public static void main(String[] args) {
        promise1NewObject();
        promise2Clip();
        promise2ClipWhenFull();
        promise3Sequence();
        promise4Paint();
        promise4PaintRefused();
        promise4PaintIsNoEdit();
        due.end();
    }

    private static void promise1NewObject() {
        CuttingRoom room = new CuttingRoom();
        due.is("sources of a new room", room.count(0), 0);
        due.is("edits of a new room", room.count(1), 0);
        due.is("undone edits of a new room", room.count(2), 0);
        due.no("undo in a new room", room.undo());
        due.no("redo in a new room", room.redo());
        room.sequence();
        due.no("insert without a pick", room.insert(0, 0, 0));
        due.no("overwrite without a pick", room.overwrite(0, 0, 0));
    }

    private static void promise2Clip() {
        CuttingRoom room = new CuttingRoom();
        for (int bad : new int[] {0, -1, 41, Integer.MAX_VALUE, Integer.MIN_VALUE}) {
            due.throwsA("clip of " + bad, IllegalArgumentException.class, () -> room.clip(bad));
        }
        due.is("sources after refused clips", room.count(0), 0);
        due.is("first clip", room.clip(1), 0);
        due.is("second clip", room.clip(40), 1);
        due.is("its pictures", room.about(1, 1), 40);
        for (int pixel = 0; pixel < 16; pixel++) {
            due.is("black at first", room.pixel(1, 39, pixel), 0);
        }
    }

    private static void promise2ClipWhenFull() {
        CuttingRoom room = new CuttingRoom();
        for (int s = 0; s < 16; s++) {
            due.is("source", s % 2 == 0 ? room.clip(1) : room.sequence(), s);
        }
        due.throwsA("17th clip", IllegalStateException.class, () -> room.clip(1));
        due.throwsA("a bad clip when full", IllegalArgumentException.class, () -> room.clip(41));
        due.throwsA("17th sequence", IllegalStateException.class, room::sequence);
        due.is("sources", room.count(0), 16);
    }

    private static void promise3Sequence() {
        CuttingRoom room = new CuttingRoom();
        due.is("a sequence", room.sequence(), 0);
        due.is("a clip", room.clip(3), 1);
        due.is("another sequence", room.sequence(), 2);
        for (int track = 0; track < 3; track++) {
            due.is("events at first", room.event(2, track, CuttingRoom.NONE, 0), 0);
        }
        due.is("a sequence by about", room.about(2, 0), 1);
        due.is("black without events", room.pixel(2, 0, 0), 0);
    }

    private static void promise4Paint() {
        CuttingRoom room = new CuttingRoom();
        room.clip(2);
        due.yes("some pixels", room.paint(0, 1, 3, 5, 0x123456));
        int[] want = {0, 0, 0, 0x123456, 0x123456, 0x123456, 0};
        for (int pixel = 0; pixel < want.length; pixel++) {
            due.is("pixel " + pixel, room.pixel(0, 1, pixel), want[pixel]);
        }
        due.is("the other picture", room.pixel(0, 0, 4), 0);
        due.yes("all pixels, white", room.paint(0, 0, 0, 15, 0xFFFFFF));
        due.is("first pixel", room.pixel(0, 0, 0), 0xFFFFFF);
        due.is("last pixel", room.pixel(0, 0, 15), 0xFFFFFF);
        due.yes("one pixel, black again", room.paint(0, 0, 15, 15, 0));
        due.is("last pixel", room.pixel(0, 0, 15), 0);
        due.is("the one ahead", room.pixel(0, 0, 14), 0xFFFFFF);
    }

    private static void promise4PaintRefused() {
        CuttingRoom room = new CuttingRoom();
        room.clip(2);
        room.sequence();
        due.no("no such clip", room.paint(2, 0, 0, 15, 1));
        due.no("clip -1", room.paint(-1, 0, 0, 15, 1));
        due.no("a sequence", room.paint(1, 0, 0, 15, 1));
        due.no("picture -1", room.paint(0, -1, 0, 15, 1));
        due.no("picture behind the last", room.paint(0, 2, 0, 15, 1));
        due.no("from below 0", room.paint(0, 0, -1, 15, 1));
        due.no("to above 15", room.paint(0, 0, 0, 16, 1));
        due.no("from above to", room.paint(0, 0, 5, 4, 1));
        due.no("colour below 0", room.paint(0, 0, 0, 15, -1));
        due.no("colour above white", room.paint(0, 0, 0, 15, 0x1000000));
        for (int pixel = 0; pixel < 16; pixel++) {
            due.is("nothing painted", room.pixel(0, 0, pixel), 0);
        }
    }

    private static void promise4PaintIsNoEdit() {
        CuttingRoom room = new CuttingRoom();
        room.clip(2);
        room.sequence();
        Due.lay(room, 0, 0, 2, 1, 0, 0);
        room.undo();
        room.paint(0, 0, 0, 15, 7);
        due.is("edits after paint", room.count(1), 0);
        due.is("undone edits after paint", room.count(2), 1);
        due.yes("redo after paint", room.redo());
        due.is("painted", room.pixel(1, 0, 0), 7);
        due.yes("undo", room.undo());
        due.is("still painted", room.pixel(0, 0, 0), 7);
    }
}
