import java.util.List;

/** The edges of promise 5, pick, and of what the terms say of events and of GOOD; one test for each sentence. */
public final class PickEdgesTest {
    private static final String ARGUMENT = "IllegalArgumentException";

    private static final Sentences sentences = new Sentences();

    public static void main(String[] args) {
        fromNowOn();
        atFirst();
        noSuchSource();
        entries();
        lengths();
        speeds();
        goodAtTheFirstFrame();
        goodAtTheLastFrame();
        roundedDown();
        anySequenceIsGood();
        refusedPicksLeaveTheEarlierOne();
        isNoEdit();
        sentences.end();
    }

    /** Clip 0 with 20 pictures, sequences 1 and 2, and a pick that views can show. */
    private static List<String> room() {
        return List.of("clip 20", "sequence", "sequence", "pick 0 7 3 2 5");
    }

    private static void fromNowOn() {
        sentences.holds("5: what insert and overwrite lay from now on",
                room(), "insert 1 0 0 = true", "overwrite 1 1 50 = true", "insert 1 0 0 = true",
                "track 1 0 = 0.7.0.0.3 0.7.0.3.3", "track 1 1 = 0.7.0.53.3",
                "pick 0 0 1 1 1 = done", "overwrite 1 0 1 = true",
                "track 1 0 = 0.7.0.0.1 0.0.0.1.1 0.7.2.2.1 0.7.0.3.3", "undo", "insert 1 2 9 = true",
                "track 1 2 = 0.0.0.9.1");
    }

    private static void atFirst() {
        sentences.holds("Terms: SKIP 0, BLEND 0, LEVEL 256, CROSSING kind 0 and 0 frames, at first",
                room(), "overwrite 1 0 5", "track 1 0 = 0.7.0.5.3", "looks 1 0 0 = 2.5.0.256.0.0",
                "style 1 0 5 4 0", "cross 1 0 5 2 3", "overwrite 1 0 5", "looks 1 0 0 = 2.5.0.256.0.0");
    }

    private static void noSuchSource() {
        sentences.holds("5: if there is no such source",
                room(), Sentences.refused("pick ? 0 1 1 1", ARGUMENT, -1, 3, 4, 15, 16, "MAX", "MIN"),
                "pick 0 0 1 1 1 = done", "pick 2 0 1 1 1 = done", "! pick 3 0 1 1 1 = " + ARGUMENT, "sequence = 3",
                "pick 3 0 1 1 1 = done");
        sentences.holds("5: the last source of a full room",
                Sentences.times(16, i -> i == 0 ? "sequence" : "clip 1"), "pick 15 0 1 1 1 = done",
                "! pick 16 0 1 1 1 = " + ARGUMENT, "overwrite 0 0 0 = true", "track 0 0 = 15.0.0.0.1");
    }

    private static void entries() {
        sentences.holds("5: entry is not 0 .. 1000",
                room(), Sentences.refused("pick 2 ? 1 1 1", ARGUMENT, -1, -2, 1001, 1002, "MAX", "MIN"),
                Sentences.refused("pick 0 ? 1 1 1", ARGUMENT, -1, 1001, "MAX", "MIN"),
                "pick 2 0 1 1 1 = done", "overwrite 1 0 0", "pick 2 1000 1 1 1 = done", "overwrite 1 0 1",
                "track 1 0 = 2.0.0.0.1 2.1000.0.1.1");
    }

    private static void lengths() {
        sentences.holds("5: length is not 1 .. 200",
                room(), Sentences.refused("pick 2 0 ? 1 1", ARGUMENT, 0, -1, 201, 202, "MAX", "MIN"),
                Sentences.refused("pick 0 0 ? 1 8", ARGUMENT, 0, -1, 201, "MAX", "MIN"),
                "pick 2 0 1 1 1 = done", "overwrite 1 0 199", "track 1 0 = 2.0.0.199.1",
                "pick 2 0 200 1 1 = done", "overwrite 1 0 0", "track 1 0 = 2.0.0.0.200");
    }

    private static void speeds() {
        sentences.holds("5: num is not 1 .. 8",
                room(), Sentences.refused("pick 2 0 1 ? 1", ARGUMENT, 0, -1, 9, 10, "MAX", "MIN"),
                "pick 2 0 1 1 8 = done", "pick 2 0 1 8 1 = done", "overwrite 1 0 0", "looks 1 0 0 = 8.1.0.256.0.0");
        sentences.holds("5: den is not 1 .. 8",
                room(), Sentences.refused("pick 2 0 1 1 ?", ARGUMENT, 0, -1, 9, 10, "MAX", "MIN"),
                "pick 2 0 1 8 1 = done", "pick 2 0 1 1 8 = done", "overwrite 1 0 0", "looks 1 0 0 = 1.8.0.256.0.0");
        sentences.holds("5: num and den alike",
                room(), "pick 2 0 1 8 8 = done", "pick 2 0 1 1 1 = done", "! pick 2 0 1 9 9 = " + ARGUMENT,
                "! pick 2 0 1 0 0 = " + ARGUMENT);
    }

    private static void goodAtTheFirstFrame() {
        sentences.holds("Terms: GOOD if that is 0 or more for its first frame",
                room(), "pick 0 0 1 1 1 = done", "overwrite 1 0 5", "! trim 1 0 5 3 -1 = false",
                "trim 1 0 5 3 1 = true", "trim 1 0 5 3 -1 = true", "! trim 1 0 5 0 -1 = false",
                "pick 2 0 1 1 1 = done", "overwrite 1 0 5", "! trim 1 0 5 3 -1 = false",
                "! trim 1 0 5 0 -1 = false", "trim 1 0 5 3 1 = true", "trim 1 0 5 0 -1 = true",
                "track 1 0 = 2.1.-1.4.2");
    }

    private static void goodAtTheLastFrame() {
        sentences.holds("Terms: of a clip, less than the clip's pictures for its last one",
                room(), "pick 0 19 1 1 1 = done", "! pick 0 20 1 1 1 = " + ARGUMENT, "! pick 0 19 2 1 1 = " + ARGUMENT,
                "pick 0 0 20 1 1 = done", "! pick 0 0 21 1 1 = " + ARGUMENT, "pick 0 10 10 1 1 = done",
                "! pick 0 11 10 1 1 = " + ARGUMENT, "! pick 0 10 11 1 1 = " + ARGUMENT);
        sentences.holds("Terms: GOOD, of a clip of one picture",
                "clip 1", "pick 0 0 1 8 1 = done", "! pick 0 1 1 1 1 = " + ARGUMENT, "! pick 0 0 2 1 1 = " + ARGUMENT,
                "pick 0 0 8 1 8 = done", "! pick 0 0 9 1 8 = " + ARGUMENT);
        sentences.holds("Terms: GOOD, of a clip of 40 pictures",
                "clip 40", "pick 0 0 40 1 1 = done", "! pick 0 0 41 1 1 = " + ARGUMENT, "pick 0 39 1 1 1 = done",
                "! pick 0 40 1 1 1 = " + ARGUMENT, "! pick 0 1000 1 1 1 = " + ARGUMENT, "pick 0 0 200 1 5 = done",
                "! pick 0 0 200 1 4 = " + ARGUMENT, "! pick 0 1 200 1 5 = " + ARGUMENT);
    }

    private static void roundedDown() {
        sentences.holds("Terms: the frame that an event shows, rounded down",
                room(), "pick 0 0 160 1 8 = done", "! pick 0 0 161 1 8 = " + ARGUMENT,
                "pick 0 3 3 8 1 = done", "! pick 0 4 3 8 1 = " + ARGUMENT,
                "pick 0 0 14 3 2 = done", "! pick 0 0 15 3 2 = " + ARGUMENT, "! pick 0 1 14 3 2 = " + ARGUMENT,
                "pick 0 0 23 7 8 = done", "! pick 0 0 24 7 8 = " + ARGUMENT,
                "pick 0 0 20 8 8 = done", "! pick 0 0 21 8 8 = " + ARGUMENT);
    }

    private static void anySequenceIsGood() {
        sentences.holds("Terms: GOOD, of a sequence at any frame behind",
                room(), "pick 1 1000 200 8 1 = done", "overwrite 2 0 0 = true", "track 2 0 = 1.1000.0.0.200",
                "trim 2 0 0 3 200 = true", "event 2 0 0 1 = 1200");
    }

    private static void refusedPicksLeaveTheEarlierOne() {
        sentences.holds("5: a refused pick is none",
                room(), "! pick 0 0 0 1 1 = " + ARGUMENT, "! pick 0 20 1 1 1 = " + ARGUMENT,
                "! pick 9 0 1 1 1 = " + ARGUMENT, "overwrite 1 0 0 = true", "track 1 0 = 0.7.0.0.3",
                "looks 1 0 0 = 2.5.0.256.0.0");
        sentences.holds("5: nor if nothing was picked",
                "clip 20", "sequence", "! pick 0 20 1 1 1 = " + ARGUMENT, "! insert 1 0 0 = false",
                "! overwrite 1 0 0 = false");
    }

    private static void isNoEdit() {
        sentences.holds("5: pick is no edit",
                room(), "count 1 = 0", "overwrite 1 0 0", "undo", "pick 0 0 1 1 1", "count 1 = 0", "count 2 = 1",
                "redo = true", "track 1 0 = 0.7.0.0.3", "undo", "overwrite 1 0 0", "track 1 0 = 0.0.0.0.1");
    }
}
