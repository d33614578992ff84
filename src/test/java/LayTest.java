/** Promises 5 to 7: pick, insert, overwrite. */
public final class LayTest {
    private static final Due due = new Due();

    public static void main(String[] args) {
        promise5Pick();
        promise5PickRefused();
        promise5PickOfASequence();
        promise6Insert();
        promise6InsertCutsAllTracks();
        promise6InsertRefused();
        promise6InsertCountsEvents();
        promise7Overwrite();
        promise7OverwriteWithin();
        promise7OverwriteRefused();
        promise7OverwriteCountsEvents();
        refusesCircles();
        refusesDepth();
        judgesTheDepthThatIsLeft();
        due.end();
    }

    /** Clip 0 with 20 pictures, sequence 1. */
    private static CuttingRoom room() {
        CuttingRoom room = new CuttingRoom();
        room.clip(20);
        room.sequence();
        return room;
    }

    private static void promise5Pick() {
        CuttingRoom room = room();
        room.pick(0, 4, 6, 5, 2);
        due.yes("overwrite", room.overwrite(1, 2, 7));
        due.is("what was laid", Due.track(room, 1, 2), "0.4.0.7.6");
        due.is("its looks", Due.looks(room, 1, 2, 0), "5.2.0.256.0.0");
        due.throwsA("a bad pick", IllegalArgumentException.class, () -> room.pick(0, 0, 0, 1, 1));
        due.yes("the earlier pick stays", room.overwrite(1, 1, 0));
        due.is("what was laid then", Due.track(room, 1, 1), "0.4.0.0.6");
    }

    private static void promise5PickRefused() {
        CuttingRoom room = room();
        int[][] bad = {
            {-1, 0, 1, 1, 1}, {2, 0, 1, 1, 1}, {16, 0, 1, 1, 1}, {0, -1, 1, 1, 1}, {1, 1001, 1, 1, 1},
            {1, 0, 0, 1, 1}, {1, 0, 201, 1, 1}, {1, 0, 1, 0, 1}, {1, 0, 1, 9, 1}, {1, 0, 1, 1, 0},
            {1, 0, 1, 1, 9}, {0, 20, 1, 1, 1}, {0, 0, 21, 1, 1}, {0, 19, 2, 1, 1}, {0, 0, 11, 2, 1},
            {0, 0, 41, 1, 2}, {0, Integer.MAX_VALUE, 1, 1, 1}, {1, 0, -5, 1, 1}, {1, 0, 1, 1, -1}};
        for (int[] b : bad) {
            due.throwsA("pick " + java.util.Arrays.toString(b), IllegalArgumentException.class,
                    () -> room.pick(b[0], b[1], b[2], b[3], b[4]));
        }
        due.no("still nothing is picked", room.insert(1, 0, 0));
        int[][] good = {
            {0, 19, 1, 8, 1}, {0, 0, 20, 1, 1}, {0, 0, 10, 2, 1}, {0, 1, 10, 2, 1}, {0, 0, 40, 1, 2},
            {0, 0, 160, 1, 8}, {1, 1000, 200, 8, 8}};
        for (int[] g : good) {
            room.pick(g[0], g[1], g[2], g[3], g[4]);
        }
    }

    private static void promise5PickOfASequence() {
        CuttingRoom room = room();
        room.sequence();
        room.pick(2, 1000, 200, 8, 1);
        due.yes("an empty sequence, far behind", room.overwrite(1, 0, 0));
        due.is("what was laid", Due.track(room, 1, 0), "2.1000.0.0.200");
    }

    private static void promise6Insert() {
        CuttingRoom room = room();
        room.pick(0, 0, 10, 1, 1);
        due.yes("insert at 5", room.insert(1, 0, 5));
        due.is("laid there", Due.track(room, 1, 0), "0.0.0.5.10");
        room.pick(0, 3, 2, 1, 1);
        due.yes("insert at its start", room.insert(1, 0, 5));
        due.is("it moves on", Due.track(room, 1, 0), "0.3.0.5.2 0.0.0.7.10");
        due.yes("insert at its end", room.insert(1, 0, 17));
        due.is("nothing moves", Due.track(room, 1, 0), "0.3.0.5.2 0.0.0.7.10 0.3.0.17.2");
        due.yes("insert in it", room.insert(1, 0, 10));
        due.is("it is cut", Due.track(room, 1, 0),
                "0.3.0.5.2 0.0.0.7.3 0.3.0.10.2 0.0.3.12.7 0.3.0.19.2");
        due.yes("insert at 0", room.insert(1, 0, 0));
        due.is("all move", Due.track(room, 1, 0),
                "0.3.0.0.2 0.3.0.7.2 0.0.0.9.3 0.3.0.12.2 0.0.3.14.7 0.3.0.21.2");
    }

    private static void promise6InsertCutsAllTracks() {
        CuttingRoom room = room();
        Due.lay(room, 0, 0, 10, 1, 0, 0);
        Due.lay(room, 0, 0, 10, 1, 1, 4);
        Due.lay(room, 0, 0, 4, 1, 2, 0);
        Due.lay(room, 0, 5, 4, 1, 2, 4);
        room.style(1, 0, 0, 3, 99);
        room.cross(1, 0, 0, 2, 6);
        room.pick(0, 9, 3, 1, 1);
        due.yes("insert", room.insert(1, 2, 4));
        due.is("track 0 is cut", Due.track(room, 1, 0), "0.0.0.0.4 0.0.4.7.6");
        due.is("the head's looks", Due.looks(room, 1, 0, 0), "1.1.3.99.2.6");
        due.is("the rest has no crossing", Due.looks(room, 1, 0, 1), "1.1.3.99.0.0");
        due.is("track 1 moves", Due.track(room, 1, 1), "0.0.0.7.10");
        due.is("track 2", Due.track(room, 1, 2), "0.0.0.0.4 0.9.0.4.3 0.5.0.7.4");
        due.is("one edit", room.count(1), 7);
    }

    private static void promise6InsertRefused() {
        CuttingRoom room = room();
        Due.lay(room, 0, 0, 10, 1, 1, 190);
        room.pick(0, 0, 5, 1, 1);
        due.no("what is behind leaves the frames", room.insert(1, 0, 0));
        due.no("what is cut leaves the frames", room.insert(1, 0, 195));
        due.no("no sequence", room.insert(2, 0, 0));
        due.no("sequence -1", room.insert(-1, 0, 0));
        due.no("a clip", room.insert(0, 0, 0));
        due.no("track 3", room.insert(1, 3, 0));
        due.no("track -1", room.insert(1, -1, 0));
        due.no("frame 200", room.insert(1, 0, 200));
        due.no("frame -1", room.insert(1, 0, -1));
        due.no("frame far off", room.insert(1, 0, Integer.MAX_VALUE));
        due.is("nothing changed", Due.track(room, 1, 1), "0.0.0.190.10");
        due.is("no edit", room.count(1), 1);
        room.undo();
        due.no("it ends behind the frames", room.insert(1, 0, 196));
        due.yes("it ends with them", room.insert(1, 0, 195));
    }

    private static void promise6InsertCountsEvents() {
        CuttingRoom room = room();
        room.pick(0, 0, 2, 1, 1);
        for (int i = 0; i < 29; i++) {
            room.overwrite(1, 0, 2 * i);
        }
        due.no("a cut event and another one would be 31", room.insert(1, 0, 1));
        due.yes("the 30th", room.insert(1, 0, 2));
        due.no("the 31st", room.insert(1, 0, 2));
        due.no("a cut by an insert on another track", room.insert(1, 1, 1));
        due.yes("without a cut", room.insert(1, 1, 2));
        due.is("events", room.event(1, 0, CuttingRoom.NONE, 0), 30);
    }

    private static void promise7Overwrite() {
        CuttingRoom room = room();
        Due.lay(room, 0, 0, 4, 1, 0, 0);
        Due.lay(room, 0, 4, 4, 1, 0, 4);
        Due.lay(room, 0, 8, 4, 1, 0, 8);
        Due.lay(room, 0, 0, 20, 1, 1, 0);
        due.yes("over three", Due.lay(room, 0, 12, 6, 1, 0, 3));
        due.is("track 0", Due.track(room, 1, 0), "0.0.0.0.3 0.12.0.3.6 0.8.1.9.3");
        due.is("track 1 stays", Due.track(room, 1, 1), "0.0.0.0.20");
        due.yes("over the same frames", Due.lay(room, 0, 13, 6, 1, 0, 3));
        due.is("only it is gone", Due.track(room, 1, 0), "0.0.0.0.3 0.13.0.3.6 0.8.1.9.3");
        due.yes("over all", Due.lay(room, 0, 0, 20, 1, 0, 0));
        due.is("all are gone", Due.track(room, 1, 0), "0.0.0.0.20");
    }

    private static void promise7OverwriteWithin() {
        CuttingRoom room = room();
        room.pick(0, 1, 9, 2, 3);
        room.overwrite(1, 0, 10);
        room.cross(1, 0, 10, 1, 9);
        due.yes("within an event", Due.lay(room, 0, 0, 2, 1, 0, 14));
        due.is("three are left", Due.track(room, 1, 0), "0.1.0.10.4 0.0.0.14.2 0.1.6.16.3");
        due.is("the head keeps its crossing", Due.looks(room, 1, 0, 0), "2.3.0.256.1.9");
        due.is("the rest has none", Due.looks(room, 1, 0, 2), "2.3.0.256.0.0");
    }

    private static void promise7OverwriteRefused() {
        CuttingRoom room = room();
        room.pick(0, 0, 5, 1, 1);
        due.no("beyond the frames", room.overwrite(1, 0, 196));
        due.no("frame 200", room.overwrite(1, 0, 200));
        due.no("frame -1", room.overwrite(1, 0, -1));
        due.no("frame far off", room.overwrite(1, 0, Integer.MAX_VALUE));
        due.no("no sequence", room.overwrite(2, 0, 0));
        due.no("a clip", room.overwrite(0, 0, 0));
        due.no("track 3", room.overwrite(1, 3, 0));
        due.no("track -1", room.overwrite(1, -1, 0));
        due.is("no edits", room.count(1), 0);
        due.yes("the last frames", room.overwrite(1, 0, 195));
    }

    private static void promise7OverwriteCountsEvents() {
        CuttingRoom room = room();
        room.pick(0, 0, 4, 1, 1);
        for (int i = 0; i < 29; i++) {
            room.overwrite(1, 0, 4 * i);
        }
        room.pick(0, 0, 2, 1, 1);
        due.no("29 and two more", room.overwrite(1, 0, 1));
        due.yes("29 and one more", room.overwrite(1, 0, 0));
        due.no("30 and two more", room.overwrite(1, 0, 5));
        due.no("30 and one more", room.overwrite(1, 0, 4));
        room.pick(0, 0, 6, 1, 1);
        due.no("two are cut, and 31 would be left", room.overwrite(1, 0, 5));
        room.pick(0, 0, 10, 1, 1);
        due.yes("two are cut, and one between them is gone", room.overwrite(1, 0, 5));
        due.is("events", room.event(1, 0, CuttingRoom.NONE, 0), 30);
        due.is("the 3rd", room.event(1, 0, 2, 4), 1);
        due.is("the 4th", room.event(1, 0, 3, 4), 10);
        due.is("the 5th", room.event(1, 0, 4, 4), 1);
    }

    private static void refusesCircles() {
        CuttingRoom room = new CuttingRoom();
        for (int s = 0; s < 3; s++) {
            room.sequence();
        }
        due.no("in itself, by overwrite", Due.lay(room, 0, 0, 5, 0, 0, 0));
        room.pick(0, 0, 5, 1, 1);
        due.no("in itself, by insert", room.insert(0, 0, 0));
        due.yes("0 in 1", room.insert(1, 0, 0));
        room.pick(1, 0, 5, 1, 1);
        due.no("1 in 0", room.insert(0, 0, 0));
        due.yes("1 in 2", room.overwrite(2, 2, 7));
        room.pick(2, 0, 5, 1, 1);
        due.no("2 in 0", room.overwrite(0, 1, 0));
        due.no("2 in 1, over 0", room.overwrite(1, 0, 0));
        due.is("0 has no events", Due.track(room, 0, 1), "");
        due.yes("undo: 1 in 2", room.undo());
        due.yes("2 in 0 then", room.overwrite(0, 1, 0));
        due.is("depth of 1", room.about(1, 2), 2);
    }

    private static void refusesDepth() {
        CuttingRoom room = new CuttingRoom();
        for (int s = 0; s < 7; s++) {
            room.sequence();
        }
        for (int s = 0; s < 4; s++) {
            room.pick(s, 0, 5, 1, 1);
            due.yes(s + " in the next one", room.insert(s + 1, 0, 0));
        }
        due.is("depth", room.about(4, 2), 4);
        room.pick(4, 0, 5, 1, 1);
        due.no("depth 5", room.insert(5, 0, 0));
        room.pick(6, 0, 5, 1, 1);
        due.no("depth 5 of another sequence", room.overwrite(0, 0, 0));
        due.yes("depth 4 by another way", room.overwrite(1, 1, 0));
        room.clip(1);
        room.pick(7, 0, 1, 1, 1);
        due.yes("a clip makes none deeper", room.overwrite(0, 0, 0));
        due.is("depth", room.about(4, 2), 4);
    }

    private static void judgesTheDepthThatIsLeft() {
        CuttingRoom room = new CuttingRoom();
        for (int s = 0; s < 7; s++) {
            room.sequence();
        }
        for (int s = 0; s < 4; s++) {
            Due.lay(room, s, 0, 5, s + 1, 0, 0);
        }
        due.yes("5 in 6", Due.lay(room, 5, 0, 5, 6, 0, 0));
        due.no("6 beside 0 in 1", Due.lay(room, 6, 0, 5, 1, 1, 0));
        due.yes("5 over 0 in 1", Due.lay(room, 5, 0, 5, 1, 0, 0));
        due.no("6 in 5", Due.lay(room, 6, 0, 5, 5, 0, 0));
    }
}
