/** Promises 8 to 10: lift, extract, blade. */
public final class ClearTest {
    private static final Due due = new Due();

    public static void main(String[] args) {
        promise8Lift();
        promise8LiftRefused();
        promise8LiftCountsEvents();
        promise9Extract();
        promise9ExtractOfAGap();
        promise9ExtractRefused();
        promise10Blade();
        promise10BladeRefused();
        due.end();
    }

    /** Clip 0 with 20 pictures; sequence 1 with events at 5 .. 14 and 15 .. 18 on track 1. */
    private static CuttingRoom room() {
        CuttingRoom room = new CuttingRoom();
        room.clip(20);
        room.sequence();
        Due.lay(room, 0, 0, 10, 1, 1, 5);
        Due.lay(room, 0, 7, 4, 1, 1, 15);
        return room;
    }

    /** Events of four frames each on track 0 of sequence 1, without gaps. */
    private static CuttingRoom rowOf(int events) {
        CuttingRoom room = new CuttingRoom();
        room.clip(20);
        room.sequence();
        room.pick(0, 0, 4, 1, 1);
        for (int i = 0; i < events; i++) {
            room.overwrite(1, 0, 4 * i);
        }
        return room;
    }

    private static void promise8Lift() {
        CuttingRoom room = room();
        due.yes("within one", room.lift(1, 1, 7, 9));
        due.is("it is in two", Due.track(room, 1, 1), "0.0.0.5.2 0.0.4.9.6 0.7.0.15.4");
        due.yes("over a cut", room.lift(1, 1, 14, 16));
        due.is("both are shorter", Due.track(room, 1, 1), "0.0.0.5.2 0.0.4.9.5 0.7.1.16.3");
        due.yes("one whole", room.lift(1, 1, 9, 14));
        due.is("it is gone", Due.track(room, 1, 1), "0.0.0.5.2 0.7.1.16.3");
        due.yes("the last frame of one", room.lift(1, 1, 18, 200));
        due.is("it is shorter", Due.track(room, 1, 1), "0.0.0.5.2 0.7.1.16.2");
        due.yes("all", room.lift(1, 1, 0, 200));
        due.is("none is left", Due.track(room, 1, 1), "");
        due.is("edits", room.count(1), 7);
    }

    private static void promise8LiftRefused() {
        CuttingRoom room = room();
        due.no("nothing ahead", room.lift(1, 1, 0, 5));
        due.no("nothing behind", room.lift(1, 1, 19, 200));
        due.no("nothing on the track", room.lift(1, 0, 0, 200));
        due.no("from is to", room.lift(1, 1, 7, 7));
        due.no("from above to", room.lift(1, 1, 9, 7));
        due.no("to above 200", room.lift(1, 1, 7, 201));
        due.no("from below 0", room.lift(1, 1, -1, 9));
        due.no("no sequence", room.lift(2, 1, 7, 9));
        due.no("a clip", room.lift(0, 1, 7, 9));
        due.no("track 3", room.lift(1, 3, 7, 9));
        due.no("track -1", room.lift(1, -1, 7, 9));
        due.is("nothing changed", Due.track(room, 1, 1), "0.0.0.5.10 0.7.0.15.4");
        due.is("no edit", room.count(1), 2);
    }

    private static void promise8LiftCountsEvents() {
        CuttingRoom room = rowOf(30);
        due.no("31 would be left", room.lift(1, 0, 41, 43));
        due.yes("30 are left, of 32", room.lift(1, 0, 41, 47));
        due.is("events", room.event(1, 0, CuttingRoom.NONE, 0), 30);
        due.yes("28 are left", room.lift(1, 0, 0, 8));
        due.yes("29 are left", room.lift(1, 0, 9, 10));
    }

    private static void promise9Extract() {
        CuttingRoom room = room();
        Due.lay(room, 0, 0, 20, 1, 0, 0);
        Due.lay(room, 0, 3, 2, 1, 2, 9);
        Due.lay(room, 0, 3, 2, 1, 2, 12);
        due.yes("extract", room.extract(1, 8, 12));
        due.is("track 0", Due.track(room, 1, 0), "0.0.0.0.8 0.0.12.8.8");
        due.is("track 1", Due.track(room, 1, 1), "0.0.0.5.3 0.0.7.8.3 0.7.0.11.4");
        due.is("track 2", Due.track(room, 1, 2), "0.3.0.8.2");
        due.is("frames", room.about(1, 1), 16);
        due.yes("extract all", room.extract(1, 0, 200));
        due.is("frames", room.about(1, 1), 0);
        due.no("extract nothing", room.extract(1, 0, 200));
    }

    private static void promise9ExtractOfAGap() {
        CuttingRoom room = room();
        due.yes("a gap", room.extract(1, 0, 3));
        due.is("all move back", Due.track(room, 1, 1), "0.0.0.2.10 0.7.0.12.4");
        due.yes("the last frame", room.extract(1, 15, 16));
        due.is("it is shorter", Due.track(room, 1, 1), "0.0.0.2.10 0.7.0.12.3");
    }

    private static void promise9ExtractRefused() {
        CuttingRoom room = room();
        due.no("behind all", room.extract(1, 19, 20));
        due.no("from is to", room.extract(1, 7, 7));
        due.no("from above to", room.extract(1, 9, 7));
        due.no("to above 200", room.extract(1, 7, 201));
        due.no("from below 0", room.extract(1, -1, 7));
        due.no("no sequence", room.extract(2, 7, 9));
        due.no("a clip", room.extract(0, 7, 9));
        due.is("nothing changed", Due.track(room, 1, 1), "0.0.0.5.10 0.7.0.15.4");
        CuttingRoom full = rowOf(30);
        due.no("31 would be left", full.extract(1, 41, 43));
        due.yes("30 are left", full.extract(1, 41, 47));
        due.is("nothing is in common", Due.track(full, 1, 0).split(" ")[11], "0.0.3.41.1");
    }

    private static void promise10Blade() {
        CuttingRoom room = room();
        room.style(1, 1, 5, 2, 100);
        room.cross(1, 1, 5, 1, 10);
        due.yes("in two", room.blade(1, 1, 6));
        due.is("track", Due.track(room, 1, 1), "0.0.0.5.1 0.0.1.6.9 0.7.0.15.4");
        due.is("the head", Due.looks(room, 1, 1, 0), "1.1.2.100.1.10");
        due.is("the rest", Due.looks(room, 1, 1, 1), "1.1.2.100.0.0");
        due.yes("the rest in two", room.blade(1, 1, 14));
        due.is("track", Due.track(room, 1, 1), "0.0.0.5.1 0.0.1.6.8 0.0.9.14.1 0.7.0.15.4");
    }

    private static void promise10BladeRefused() {
        CuttingRoom room = room();
        due.no("its first frame", room.blade(1, 1, 5));
        due.no("its first frame, behind another one", room.blade(1, 1, 15));
        due.no("ahead of all", room.blade(1, 1, 4));
        due.no("behind all", room.blade(1, 1, 19));
        due.no("frame -1", room.blade(1, 1, -1));
        due.no("frame 200", room.blade(1, 1, 200));
        due.no("another track", room.blade(1, 0, 7));
        due.no("track 3", room.blade(1, 3, 7));
        due.no("track -1", room.blade(1, -1, 7));
        due.no("no sequence", room.blade(2, 1, 7));
        due.no("a clip", room.blade(0, 1, 7));
        due.is("no edit", room.count(1), 2);
        CuttingRoom full = rowOf(29);
        due.yes("the 30th", full.blade(1, 0, 1));
        due.no("the 31st", full.blade(1, 0, 2));
    }
}
