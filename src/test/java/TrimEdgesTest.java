import java.util.List;

/** The edges of promise 11, trim; one test for each sentence and mode. */
public final class TrimEdgesTest {
    private static final Sentences sentences = new Sentences();

    public static void main(String[] args) {
        mostFrames();
        noFrames();
        noSuchMode();
        head();
        headIsGood();
        tail();
        tailIsGood();
        bothSides();
        bothSidesNeedTheNext();
        bothSidesAreGood();
        entry();
        move();
        moveNeedsBothOthers();
        moveLeavesTheOthersGood();
        farthest();
        sentences.end();
    }

    /** Clip 0 with 20 pictures, sequence 1, and sequence 2, of which an event is good at any frame behind. */
    private static List<String> room() {
        return List.of("clip 20", "sequence", "sequence");
    }

    /** On track 0 of sequence 1, events of clip 0 at 10 .. 14, 15 .. 17 and 18 .. 21, all from picture 8 on. */
    private static List<Object> three() {
        return List.of(room(), "pick 0 8 5 1 1", "overwrite 1 0 10", "pick 0 8 3 1 1", "overwrite 1 0 15",
                "pick 0 8 4 1 1", "overwrite 1 0 18");
    }

    private static void mostFrames() {
        sentences.holds("11: k is -200 .. 200",
                room(), "pick 2 500 5 1 1", "overwrite 1 0 0",
                Sentences.refused("trim 1 0 0 3 ?", "false", 201, -201, 202, -202, "MAX", "MIN"),
                "trim 1 0 0 3 200 = true", "event 1 0 0 1 = 700", "trim 1 0 0 3 -200 = true",
                "trim 1 0 0 3 -200 = true", "event 1 0 0 1 = 300", "trim 1 0 0 3 199 = true",
                "trim 1 0 0 3 -199 = true", "event 1 0 0 1 = 300");
        for (int mode = 0; mode <= 4; mode++) {
            sentences.holds("11: k is -200 .. 200, mode " + mode,
                    three(), Sentences.refused("trim 1 0 15 " + mode + " ?", "false",
                            201, -201, 400, "MAX", "MIN", Integer.MAX_VALUE - 10, Integer.MIN_VALUE + 10));
        }
    }

    private static void noFrames() {
        for (int mode = 0; mode <= 4; mode++) {
            sentences.holds("11: but not 0, mode " + mode,
                    three(), "! trim 1 0 15 " + mode + " 0 = false", "trim 1 0 15 " + mode + " 1 = "
                    + (mode == 1 ? "false" : "true"));
        }
    }

    private static void noSuchMode() {
        sentences.holds("11: mode 0 .. 4",
                three(), Sentences.refused("trim 1 0 15 ? 1", "false", -1, -2, 5, 6, "MAX", "MIN"),
                Sentences.refused("trim 1 0 15 ? -1", "false", -1, 5), "trim 1 0 15 0 1 = true",
                "trim 1 0 18 1 -1 = true");
    }

    private static void head() {
        sentences.holds("11, mode 0: START + k, SKIP + k, LENGTH - k",
                three(), "trim 1 0 17 0 1 = true", "track 1 0 = 0.8.0.10.5 0.8.1.16.2 0.8.0.18.4",
                "trim 1 0 17 0 -1 = true", "track 1 0 = 0.8.0.10.5 0.8.0.15.3 0.8.0.18.4");
        sentences.holds("11, mode 0: a length would be below 1",
                three(), Sentences.refused("trim 1 0 15 0 ?", "false", 3, 4, 5, 200), "trim 1 0 15 0 2 = true",
                "track 1 0 = 0.8.0.10.5 0.8.2.17.1 0.8.0.18.4", "! trim 1 0 17 0 1 = false");
        sentences.holds("11, mode 0: two would have a frame in common",
                three(), Sentences.refused("trim 1 0 15 0 ?", "false", -1, -4, -5, -6, -8),
                "trim 1 0 15 0 1 = true", "! trim 1 0 16 0 -2 = false", "trim 1 0 16 0 -1 = true");
        sentences.holds("11, mode 0: not within frames 0 .. 199",
                room(), "pick 0 8 3 1 1", "overwrite 1 0 3", Sentences.refused("trim 1 0 5 0 ?", "false", -4, -5),
                "trim 1 0 5 0 -3 = true", "track 1 0 = 0.8.-3.0.6", "! trim 1 0 0 0 -1 = false",
                "trim 1 0 5 0 5 = true", "track 1 0 = 0.8.2.5.1");
        sentences.holds("11, mode 0: the last frame stays",
                room(), "pick 0 8 3 1 1", "overwrite 1 0 197", "trim 1 0 197 0 2 = true", "track 1 0 = 0.8.2.199.1",
                "! trim 1 0 199 0 1 = false");
    }

    private static void headIsGood() {
        sentences.holds("11, mode 0: an event would not be GOOD",
                three(), Sentences.refused("trim 1 0 10 0 ?", "false", -9, -10), "trim 1 0 10 0 -8 = true",
                "event 1 0 0 2 = -8", "! trim 1 0 10 0 -1 = false");
        sentences.holds("11, mode 0: GOOD by rounding down",
                room(), "pick 0 2 3 2 3", "overwrite 1 0 50", "trim 1 0 50 0 -3 = true",
                "! trim 1 0 50 0 -1 = false", "pick 0 2 3 3 2", "overwrite 1 0 100", "! trim 1 0 100 0 -2 = false",
                "trim 1 0 100 0 -1 = true", "! trim 1 0 100 0 -1 = false");
        sentences.holds("11, mode 0: of a sequence too",
                room(), "pick 2 3 3 1 1", "overwrite 1 0 50", "! trim 1 0 50 0 -4 = false",
                "trim 1 0 50 0 -3 = true");
    }

    private static void tail() {
        sentences.holds("11, mode 1: LENGTH + k",
                three(), "trim 1 0 18 1 1 = true", "track 1 0 = 0.8.0.10.5 0.8.0.15.3 0.8.0.18.5",
                "trim 1 0 22 1 -1 = true", "track 1 0 = 0.8.0.10.5 0.8.0.15.3 0.8.0.18.4");
        sentences.holds("11, mode 1: a length would be below 1",
                three(), Sentences.refused("trim 1 0 17 1 ?", "false", -3, -4, -200), "trim 1 0 17 1 -2 = true",
                "track 1 0 = 0.8.0.10.5 0.8.0.15.1 0.8.0.18.4", "! trim 1 0 15 1 -1 = false");
        sentences.holds("11, mode 1: two would have a frame in common",
                three(), Sentences.refused("trim 1 0 10 1 ?", "false", 1, 3, 4, 7),
                "trim 1 0 10 1 -1 = true", "! trim 1 0 10 1 2 = false", "trim 1 0 10 1 1 = true");
        sentences.holds("11, mode 1: not within frames 0 .. 199",
                room(), "pick 0 8 3 1 1", "overwrite 1 0 194", Sentences.refused("trim 1 0 194 1 ?", "false", 4, 5),
                "trim 1 0 194 1 3 = true", "track 1 0 = 0.8.0.194.6", "! trim 1 0 199 1 1 = false");
    }

    private static void tailIsGood() {
        sentences.holds("11, mode 1: an event would not be GOOD",
                three(), Sentences.refused("trim 1 0 18 1 ?", "false", 9, 10, 100), "trim 1 0 18 1 8 = true",
                "event 1 0 2 4 = 12", "! trim 1 0 18 1 1 = false");
        sentences.holds("11, mode 1: of a sequence it is GOOD",
                room(), "pick 2 1000 1 8 1", "overwrite 1 0 0", "trim 1 0 0 1 199 = true",
                "track 1 0 = 2.1000.0.0.200");
        sentences.holds("11, mode 1: GOOD by rounding down",
                room(), "pick 0 10 3 3 2", "overwrite 1 0 0", "! trim 1 0 0 1 5 = false", "trim 1 0 0 1 4 = true",
                "! trim 1 0 0 1 1 = false");
    }

    private static void bothSides() {
        sentences.holds("11, mode 2: both sides of its end",
                three(), "trim 1 0 10 2 1 = true", "track 1 0 = 0.8.0.10.6 0.8.1.16.2 0.8.0.18.4",
                "trim 1 0 15 2 -2 = true", "track 1 0 = 0.8.0.10.4 0.8.-1.14.4 0.8.0.18.4");
        sentences.holds("11, mode 2: the length of the next would be below 1",
                three(), Sentences.refused("trim 1 0 10 2 ?", "false", 3, 4, 8, 200), "trim 1 0 10 2 2 = true",
                "track 1 0 = 0.8.0.10.7 0.8.2.17.1 0.8.0.18.4", "! trim 1 0 10 2 1 = false");
        sentences.holds("11, mode 2: its length would be below 1",
                three(), Sentences.refused("trim 1 0 10 2 ?", "false", -5, -6, -200), "trim 1 0 10 2 -4 = true",
                "track 1 0 = 0.8.0.10.1 0.8.-4.11.7 0.8.0.18.4", "! trim 1 0 10 2 -1 = false");
    }

    private static void bothSidesNeedTheNext() {
        sentences.holds("11, mode 2: the other event is not there",
                three(), Sentences.refused("trim 1 0 18 2 ?", "false", 1, -1), "trim 1 0 18 0 1",
                Sentences.refused("trim 1 0 15 2 ?", "false", 1, -1), "trim 1 0 15 1 1",
                "trim 1 0 15 2 -1 = true");
        sentences.holds("11, mode 2: an event on another track is none",
                room(), "pick 0 8 5 1 1", "overwrite 1 0 10", "overwrite 1 1 15", "! trim 1 0 10 2 1 = false",
                "! trim 1 0 10 2 -1 = false", "! trim 1 1 15 2 -1 = false");
        sentences.holds("11, mode 2: at the last frame",
                room(), "pick 0 8 5 1 1", "overwrite 1 0 195", "! trim 1 0 199 2 -1 = false");
    }

    private static void bothSidesAreGood() {
        sentences.holds("11, mode 2: it would not be GOOD",
                room(), "pick 0 14 5 1 1", "overwrite 1 0 0", "pick 0 8 5 1 1", "overwrite 1 0 5",
                "! trim 1 0 0 2 2 = false", "trim 1 0 0 2 1 = true", "! trim 1 0 0 2 1 = false");
        sentences.holds("11, mode 2: the next would not be GOOD",
                room(), "pick 0 8 5 1 1", "overwrite 1 0 0", "pick 0 2 5 1 1", "overwrite 1 0 5",
                "! trim 1 0 0 2 -3 = false", "trim 1 0 0 2 -2 = true", "! trim 1 0 0 2 -1 = false",
                "track 1 0 = 0.8.0.0.3 0.2.-2.3.7");
    }

    private static void entry() {
        sentences.holds("11, mode 3: its ENTRY + k",
                three(), "trim 1 0 16 3 1 = true", "track 1 0 = 0.8.0.10.5 0.9.0.15.3 0.8.0.18.4",
                "trim 1 0 16 3 -2 = true", "track 1 0 = 0.8.0.10.5 0.7.0.15.3 0.8.0.18.4");
        sentences.holds("11, mode 3: GOOD for its first frame",
                three(), Sentences.refused("trim 1 0 15 3 ?", "false", -9, -10, -200), "trim 1 0 15 3 -8 = true",
                "! trim 1 0 15 3 -1 = false", "event 1 0 1 1 = 0");
        sentences.holds("11, mode 3: GOOD for its last frame",
                three(), Sentences.refused("trim 1 0 15 3 ?", "false", 10, 11, 200), "trim 1 0 15 3 9 = true",
                "! trim 1 0 15 3 1 = false", "event 1 0 1 1 = 17");
        sentences.holds("11, mode 3: an entry below 0 where SKIP makes up for it",
                three(), "trim 1 0 15 0 2", "! trim 1 0 17 3 -11 = false", "trim 1 0 17 3 -10 = true",
                "track 1 0 = 0.8.0.10.5 0.-2.2.17.1 0.8.0.18.4");
        sentences.holds("11, mode 3: an entry above 1000, of a sequence",
                room(), "pick 2 1000 1 1 1", "overwrite 1 0 0", "trim 1 0 0 3 1 = true", "event 1 0 0 1 = 1001",
                "trim 1 0 0 3 200 = true", "event 1 0 0 1 = 1201");
    }

    private static void move() {
        sentences.holds("11, mode 4: it moves, between the two others",
                three(), "trim 1 0 15 4 1 = true", "track 1 0 = 0.8.0.10.6 0.8.0.16.3 0.8.1.19.3",
                "trim 1 0 18 4 -2 = true", "track 1 0 = 0.8.0.10.4 0.8.0.14.3 0.8.-1.17.5");
        sentences.holds("11, mode 4: the length of the one behind would be below 1",
                three(), Sentences.refused("trim 1 0 15 4 ?", "false", 4, 5, 200), "trim 1 0 15 4 3 = true",
                "track 1 0 = 0.8.0.10.8 0.8.0.18.3 0.8.3.21.1", "! trim 1 0 18 4 1 = false");
        sentences.holds("11, mode 4: the length of the one ahead would be below 1",
                three(), Sentences.refused("trim 1 0 15 4 ?", "false", -5, -6, -200), "trim 1 0 15 4 -4 = true",
                "track 1 0 = 0.8.0.10.1 0.8.0.11.3 0.8.-4.14.8", "! trim 1 0 11 4 -1 = false");
    }

    private static void moveNeedsBothOthers() {
        sentences.holds("11, mode 4: none ends where it starts",
                three(), Sentences.refused("trim 1 0 10 4 ?", "false", 1, -1), "trim 1 0 10 1 -1",
                Sentences.refused("trim 1 0 15 4 ?", "false", 1, -1), "trim 1 0 10 1 1", "trim 1 0 15 4 1 = true");
        sentences.holds("11, mode 4: none starts where it ends",
                three(), Sentences.refused("trim 1 0 18 4 ?", "false", 1, -1), "trim 1 0 18 0 1",
                Sentences.refused("trim 1 0 15 4 ?", "false", 1, -1), "trim 1 0 19 0 -1", "trim 1 0 15 4 1 = true");
        sentences.holds("11, mode 4: none at all, at frame 0 and at frame 199",
                room(), "pick 0 8 1 1 1", "overwrite 1 0 0", "overwrite 1 0 199",
                Sentences.refused("trim 1 0 ? 4 1", "false", 0, 199),
                Sentences.refused("trim 1 0 ? 4 -1", "false", 0, 199));
    }

    private static void moveLeavesTheOthersGood() {
        sentences.holds("11, mode 4: the one ahead would not be GOOD",
                room(), "pick 0 14 5 1 1", "overwrite 1 0 0", "pick 0 0 3 1 1", "overwrite 1 0 5",
                "pick 0 8 5 1 1", "overwrite 1 0 8", "! trim 1 0 5 4 2 = false", "trim 1 0 5 4 1 = true",
                "! trim 1 0 6 4 1 = false");
        sentences.holds("11, mode 4: the one behind would not be GOOD",
                room(), "pick 0 8 5 1 1", "overwrite 1 0 0", "pick 0 0 3 1 1", "overwrite 1 0 5",
                "pick 0 2 5 1 1", "overwrite 1 0 8", "! trim 1 0 5 4 -3 = false", "trim 1 0 5 4 -2 = true",
                "! trim 1 0 3 4 -1 = false");
    }

    private static void farthest() {
        sentences.holds("11, modes 0 and 1: from one frame to 200 and back",
                room(), "pick 2 300 1 1 1", "overwrite 1 0 199", "! trim 1 0 199 0 -200 = false",
                "trim 1 0 199 0 -199 = true", "track 1 0 = 2.300.-199.0.200", "! trim 1 0 0 1 -200 = false",
                "trim 1 0 0 1 -199 = true", "track 1 0 = 2.300.-199.0.1", "! trim 1 0 0 1 200 = false",
                "trim 1 0 0 1 199 = true", "! trim 1 0 0 0 200 = false", "trim 1 0 0 0 199 = true",
                "track 1 0 = 2.300.0.199.1");
        sentences.holds("11, mode 2: all 200 frames but one",
                room(), "pick 2 300 100 1 1", "overwrite 1 0 0", "overwrite 1 0 100", "! trim 1 0 0 2 100 = false",
                "trim 1 0 0 2 99 = true", "! trim 1 0 0 2 -199 = false", "trim 1 0 0 2 -198 = true",
                "track 1 0 = 2.300.0.0.1 2.300.-99.1.199");
        sentences.holds("11, mode 4: all 200 frames but two",
                room(), "pick 2 300 1 1 1", "overwrite 1 0 0", "overwrite 1 0 1", "pick 2 300 198 1 1",
                "overwrite 1 0 2", "! trim 1 0 1 4 198 = false", "trim 1 0 1 4 197 = true",
                "track 1 0 = 2.300.0.0.198 2.300.0.198.1 2.300.197.199.1", "! trim 1 0 198 4 -198 = false",
                "trim 1 0 198 4 -197 = true");
    }
}
