/** Promises 11 to 13: trim, cross, style. */
public final class TrimTest {
    private static final Due due = new Due();

    public static void main(String[] args) {
        promise11Head();
        promise11Tail();
        promise11BothSides();
        promise11Entry();
        promise11Move();
        promise11Refused();
        promise11OfASequence();
        promise11WithASpeed();
        promise12Cross();
        promise13Style();
        due.end();
    }

    /** Clip 0 with 20 pictures; sequence 1 with 10 .. 15, 16 .. 19, 20 .. 24 and 30 .. 31 on track 0. */
    private static CuttingRoom room() {
        CuttingRoom room = new CuttingRoom();
        room.clip(20);
        room.sequence();
        Due.lay(room, 0, 2, 6, 1, 0, 10);
        Due.lay(room, 0, 3, 4, 1, 0, 16);
        Due.lay(room, 0, 5, 5, 1, 0, 20);
        Due.lay(room, 0, 18, 2, 1, 0, 30);
        return room;
    }

    private static final String AT_FIRST = "0.2.0.10.6 0.3.0.16.4 0.5.0.20.5 0.18.0.30.2";

    private static void promise11Head() {
        CuttingRoom room = room();
        due.yes("shorter", room.trim(1, 0, 12, 0, 5));
        due.is("track", Due.track(room, 1, 0), "0.2.5.15.1 0.3.0.16.4 0.5.0.20.5 0.18.0.30.2");
        due.no("no frame left", room.trim(1, 0, 15, 0, 1));
        due.yes("longer", room.trim(1, 0, 15, 0, -7));
        due.is("track", Due.track(room, 1, 0), "0.2.-2.8.8 0.3.0.16.4 0.5.0.20.5 0.18.0.30.2");
        due.no("ahead of the first picture", room.trim(1, 0, 8, 0, -1));
        due.no("over the one ahead", room.trim(1, 0, 16, 0, -1));
        due.yes("up to the one ahead", room.trim(1, 0, 30, 0, -5));
        due.is("track", Due.track(room, 1, 0), "0.2.-2.8.8 0.3.0.16.4 0.5.0.20.5 0.18.-5.25.7");
        Due.lay(room, 0, 10, 2, 1, 1, 1);
        due.no("ahead of frame 0", room.trim(1, 1, 1, 0, -2));
        due.yes("up to frame 0", room.trim(1, 1, 2, 0, -1));
    }

    private static void promise11Tail() {
        CuttingRoom room = room();
        due.yes("longer", room.trim(1, 0, 24, 1, 5));
        due.is("track", Due.track(room, 1, 0), "0.2.0.10.6 0.3.0.16.4 0.5.0.20.10 0.18.0.30.2");
        due.no("over the one behind", room.trim(1, 0, 24, 1, 1));
        due.no("over all behind", room.trim(1, 0, 24, 1, 200));
        due.no("behind the last picture", room.trim(1, 0, 31, 1, 1));
        due.yes("shorter", room.trim(1, 0, 10, 1, -5));
        due.no("no frame left", room.trim(1, 0, 10, 1, -1));
        due.is("track", Due.track(room, 1, 0), "0.2.0.10.1 0.3.0.16.4 0.5.0.20.10 0.18.0.30.2");
        Due.lay(room, 0, 0, 2, 1, 1, 197);
        due.no("behind frame 199", room.trim(1, 1, 197, 1, 2));
        due.yes("up to frame 199", room.trim(1, 1, 197, 1, 1));
    }

    private static void promise11BothSides() {
        CuttingRoom room = room();
        due.yes("later", room.trim(1, 0, 10, 2, 3));
        due.is("track", Due.track(room, 1, 0), "0.2.0.10.9 0.3.3.19.1 0.5.0.20.5 0.18.0.30.2");
        due.no("nothing left of the one behind", room.trim(1, 0, 10, 2, 1));
        due.yes("earlier", room.trim(1, 0, 10, 2, -6));
        due.is("track", Due.track(room, 1, 0), "0.2.0.10.3 0.3.-3.13.7 0.5.0.20.5 0.18.0.30.2");
        due.no("the one behind would not be good", room.trim(1, 0, 10, 2, -1));
        due.no("none starts where it ends", room.trim(1, 0, 20, 2, 1));
        due.no("none is behind", room.trim(1, 0, 30, 2, -1));
        due.yes("the one behind it", room.trim(1, 0, 13, 2, -5));
        due.no("nothing left of it", room.trim(1, 0, 13, 2, -2));
        due.is("track", Due.track(room, 1, 0), "0.2.0.10.3 0.3.-3.13.2 0.5.-5.15.10 0.18.0.30.2");
        CuttingRoom end = new CuttingRoom();
        end.clip(4);
        end.sequence();
        Due.lay(end, 0, 0, 4, 1, 0, 0);
        Due.lay(end, 0, 0, 4, 1, 0, 4);
        due.no("it would not be good", end.trim(1, 0, 0, 2, 1));
    }

    private static void promise11Entry() {
        CuttingRoom room = room();
        due.yes("back", room.trim(1, 0, 12, 3, -2));
        due.no("ahead of the first picture", room.trim(1, 0, 12, 3, -1));
        due.yes("on", room.trim(1, 0, 12, 3, 14));
        due.no("behind the last picture", room.trim(1, 0, 12, 3, 1));
        due.is("track", Due.track(room, 1, 0), "0.14.0.10.6 0.3.0.16.4 0.5.0.20.5 0.18.0.30.2");
        room.trim(1, 0, 12, 0, 2);
        due.yes("the entry alone may be below 0", room.trim(1, 0, 12, 3, -16));
        due.is("entry", room.event(1, 0, 0, 1), -2);
        due.no("ahead of the first picture", room.trim(1, 0, 12, 3, -1));
    }

    private static void promise11Move() {
        CuttingRoom room = room();
        due.yes("later", room.trim(1, 0, 17, 4, 4));
        due.is("track", Due.track(room, 1, 0), "0.2.0.10.10 0.3.0.20.4 0.5.4.24.1 0.18.0.30.2");
        due.no("nothing left of the one behind", room.trim(1, 0, 20, 4, 1));
        due.yes("earlier", room.trim(1, 0, 20, 4, -9));
        due.is("track", Due.track(room, 1, 0), "0.2.0.10.1 0.3.0.11.4 0.5.-5.15.10 0.18.0.30.2");
        due.no("nothing left of the one ahead", room.trim(1, 0, 11, 4, -1));
        due.no("none ends where it starts", room.trim(1, 0, 10, 4, 1));
        due.no("none starts where it ends", room.trim(1, 0, 15, 4, 1));
        due.no("none on both sides", room.trim(1, 0, 30, 4, 1));
        Due.lay(room, 0, 0, 3, 1, 1, 0);
        Due.lay(room, 0, 0, 2, 1, 1, 3);
        Due.lay(room, 0, 0, 4, 1, 1, 5);
        due.no("the one behind would not be good", room.trim(1, 1, 3, 4, -1));
        Due.lay(room, 0, 17, 3, 1, 1, 0);
        due.no("the one ahead would not be good", room.trim(1, 1, 3, 4, 1));
    }

    private static void promise11Refused() {
        CuttingRoom room = room();
        due.no("k is 0", room.trim(1, 0, 12, 1, 0));
        due.no("k is 201", room.trim(1, 0, 12, 0, 201));
        due.no("k is -201", room.trim(1, 0, 12, 1, -201));
        due.no("k is far off", room.trim(1, 0, 12, 0, Integer.MIN_VALUE));
        due.no("mode 5", room.trim(1, 0, 12, 5, 1));
        due.no("mode -1", room.trim(1, 0, 12, -1, 1));
        due.no("no event there", room.trim(1, 0, 25, 1, 1));
        due.no("frame -1", room.trim(1, 0, -1, 1, 1));
        due.no("frame 200", room.trim(1, 0, 200, 1, 1));
        due.no("another track", room.trim(1, 1, 12, 1, -1));
        due.no("track 3", room.trim(1, 3, 12, 1, -1));
        due.no("track -1", room.trim(1, -1, 12, 1, -1));
        due.no("no sequence", room.trim(2, 0, 12, 1, -1));
        due.no("a clip", room.trim(0, 0, 12, 1, -1));
        due.is("nothing changed", Due.track(room, 1, 0), AT_FIRST);
        due.is("no edit", room.count(1), 4);
    }

    private static void promise11OfASequence() {
        CuttingRoom room = room();
        room.sequence();
        Due.lay(room, 1, 1000, 100, 2, 0, 0);
        due.yes("an entry far behind", room.trim(2, 0, 0, 3, 200));
        due.yes("a longer tail, k of 100", room.trim(2, 0, 0, 1, 100));
        due.no("a head ahead of frame 0", room.trim(2, 0, 0, 0, -1));
        due.is("track", Due.track(room, 2, 0), "1.1200.0.0.200");
        for (int i = 0; i < 6; i++) {
            due.yes("k of -200", room.trim(2, 0, 0, 3, -200));
        }
        due.no("ahead of frame 0", room.trim(2, 0, 0, 3, -1));
        due.yes("k of 200", room.trim(2, 0, 0, 3, 200));
        due.no("k of 201", room.trim(2, 0, 0, 3, 201));
        room.trim(2, 0, 0, 3, 1);
        due.no("k of -201", room.trim(2, 0, 0, 3, -201));
    }

    private static void promise11WithASpeed() {
        CuttingRoom room = new CuttingRoom();
        room.clip(10);
        room.sequence();
        room.pick(0, 1, 3, 3, 2);
        room.overwrite(1, 0, 10);
        due.no("1 - 3 is below 0", room.trim(1, 0, 10, 0, -2));
        due.no("1 - 1.5, rounded down, is below 0", room.trim(1, 0, 10, 0, -1));
        room.trim(1, 0, 10, 3, 1);
        due.yes("2 - 1.5, rounded down, is 0", room.trim(1, 0, 10, 0, -1));
        due.yes("2 + 7.5, rounded down, is 9", room.trim(1, 0, 10, 1, 3));
        due.no("2 + 9 is no picture", room.trim(1, 0, 10, 1, 1));
        due.is("track", Due.track(room, 1, 0), "0.2.-1.9.7");
    }

    private static void promise12Cross() {
        CuttingRoom room = room();
        due.no("it has that", room.cross(1, 0, 16, 0, 0));
        due.yes("kind 1", room.cross(1, 0, 16, 1, 4));
        due.is("looks", Due.looks(room, 1, 0, 1), "1.1.0.256.1.4");
        due.no("it has that", room.cross(1, 0, 19, 1, 4));
        due.yes("another kind", room.cross(1, 0, 19, 2, 4));
        due.yes("fewer frames", room.cross(1, 0, 19, 2, 0));
        due.yes("frames of kind 0", room.cross(1, 0, 19, 0, 3));
        due.is("looks", Due.looks(room, 1, 0, 1), "1.1.0.256.0.3");
        due.no("more frames than it has", room.cross(1, 0, 16, 1, 5));
        due.no("frames below 0", room.cross(1, 0, 16, 1, -1));
        due.no("kind 3", room.cross(1, 0, 16, 3, 1));
        due.no("kind -1", room.cross(1, 0, 16, -1, 1));
        due.no("no event there", room.cross(1, 0, 25, 1, 0));
        due.no("track 3", room.cross(1, 3, 16, 1, 1));
        due.no("track -1", room.cross(1, -1, 16, 1, 1));
        due.no("no sequence", room.cross(2, 0, 16, 1, 1));
        due.no("a clip", room.cross(0, 0, 16, 1, 1));
        due.is("edits", room.count(1), 8);
        due.is("nothing else changed", Due.track(room, 1, 0), AT_FIRST);
        due.is("the others have none", Due.looks(room, 1, 0, 0), "1.1.0.256.0.0");
    }

    private static void promise13Style() {
        CuttingRoom room = room();
        due.no("it has these", room.style(1, 0, 16, 0, 256));
        due.yes("a blend", room.style(1, 0, 16, 4, 256));
        due.no("it has these", room.style(1, 0, 19, 4, 256));
        due.yes("a level", room.style(1, 0, 19, 4, 0));
        due.yes("both", room.style(1, 0, 17, 1, 17));
        due.is("looks", Due.looks(room, 1, 0, 1), "1.1.1.17.0.0");
        due.no("blend 5", room.style(1, 0, 16, 5, 1));
        due.no("blend -1", room.style(1, 0, 16, -1, 1));
        due.no("level 257", room.style(1, 0, 16, 1, 257));
        due.no("level -1", room.style(1, 0, 16, 1, -1));
        due.no("no event there", room.style(1, 0, 25, 1, 1));
        due.no("track 3", room.style(1, 3, 16, 1, 1));
        due.no("track -1", room.style(1, -1, 16, 1, 1));
        due.no("no sequence", room.style(2, 0, 16, 1, 1));
        due.no("a clip", room.style(0, 0, 16, 1, 1));
        due.is("edits", room.count(1), 7);
        due.is("nothing else changed", Due.track(room, 1, 0), AT_FIRST);
        due.is("the others have none", Due.looks(room, 1, 0, 2), "1.1.0.256.0.0");
    }
}
