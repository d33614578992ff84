import java.util.List;

/** The edges of promises 14, 15 and 19, undo, redo and count; one test for each sentence. */
public final class HistoryEdgesTest {
    private static final Sentences sentences = new Sentences();

    /** One good edit of each kind, in the room below. */
    private static final String[] EDITS = {
        "insert 1 0 12", "overwrite 2 2 12", "lift 1 0 12 13", "extract 1 12 13", "blade 1 0 12", "trim 1 0 12 1 -1",
        "cross 1 0 12 1 1", "style 1 0 12 1 1"};

    /** One bad edit of each kind. */
    private static final String[] BAD_EDITS = {
        "insert 1 0 200", "overwrite 2 2 200", "lift 1 0 12 12", "extract 1 12 12", "blade 1 0 10", "trim 1 0 12 1 0",
        "cross 1 0 12 0 0", "style 1 0 12 0 256"};

    public static void main(String[] args) {
        promise14NoneThatCanBe();
        promise14UpTo40();
        promise14The41st();
        promise14FortyOfManyAndOthers();
        promise14LatestFirst();
        promise14AllKinds();
        promise15NoneThatCanBe();
        promise15LatestUndoneFirst();
        promise15NoOtherEdit();
        promise15RefusedEditsAreNone();
        promise15OtherCallsAreNoEdits();
        promise15FortyAgain();
        promise19Counts();
        promise19AnotherWhat();
        sentences.end();
    }

    /** Clip 0 with 20 pictures, sequence 1 with an event at 10 .. 14 on track 0, sequence 2. One edit was done. */
    private static List<String> room() {
        return List.of("clip 20", "sequence", "sequence", "pick 0 1 5 1 1", "overwrite 1 0 10 = true");
    }

    /** So many edits of the event's level, to 1 and on. */
    private static List<String> levels(int edits) {
        return Sentences.times(edits, i -> "style 1 0 10 0 " + (i + 1) + " = true");
    }

    private static void promise14NoneThatCanBe() {
        sentences.holds("14: false if there is none that can be",
                "! undo = false", "clip 20", "sequence", "! undo = false", "pick 0 0 1 1 1", "! undo = false",
                "overwrite 1 0 0", "undo = true", "! undo = false", "! undo = false", "redo = true", "undo = true",
                "! undo = false");
    }

    private static void promise14UpTo40() {
        for (int edits : new int[] {1, 2, 39, 40}) {
            sentences.holds("14: " + edits + " edits can be undone",
                    room(), levels(edits - 1), "count 1 = " + edits,
                    Sentences.times(edits, i -> "undo = true"), "count 1 = 0", "count 2 = " + edits, "track 1 0 =",
                    "! undo = false");
        }
    }

    private static void promise14The41st() {
        for (int edits : new int[] {41, 42, 80}) {
            sentences.holds("14: up to the 40 latest ones, of " + edits,
                    room(), levels(edits - 1), "count 1 = 40", Sentences.times(40, i -> "undo = true"), "count 1 = 0",
                    "count 2 = 40", "event 1 0 0 8 = " + (edits == 41 ? 256 : edits - 41), "! undo = false");
        }
    }

    private static void promise14FortyOfManyAndOthers() {
        sentences.holds("14: 40 undone, then another edit",
                room(), levels(45), Sentences.times(40, i -> "undo"), "event 1 0 0 8 = 5", "! undo = false",
                "blade 1 0 12 = true", "count 1 = 1", "count 2 = 0", "undo = true", "! undo = false",
                "event 1 0 0 8 = 5");
        sentences.holds("14: some undone, then as many others",
                room(), levels(39), "count 1 = 40", Sentences.times(10, i -> "undo"), "count 1 = 30",
                Sentences.times(10, i -> "style 1 0 10 1 " + i + " = true"), "count 1 = 40",
                Sentences.times(40, i -> "undo = true"), "track 1 0 =", "! undo = false");
    }

    private static void promise14LatestFirst() {
        sentences.holds("14: the latest edit that is not undone",
                room(), "overwrite 2 1 20", "style 1 0 10 1 9", "lift 2 1 20 21", "undo = true",
                "track 2 1 = 0.1.0.20.5", "looks 1 0 0 = 1.1.1.9.0.0", "undo = true", "looks 1 0 0 = 1.1.0.256.0.0",
                "track 2 1 = 0.1.0.20.5", "undo = true", "track 2 1 =", "track 1 0 = 0.1.0.10.5", "undo = true",
                "track 1 0 =", "! undo = false");
    }

    private static void promise14AllKinds() {
        for (String edit : EDITS) {
            sentences.holds("14 and 15: undone and done again: " + edit,
                    room(), "overwrite 2 2 10", edit + " = true", "count 1 = 3", "undo = true", "count 1 = 2",
                    "count 2 = 1", "track 1 0 = 0.1.0.10.5", "looks 1 0 0 = 1.1.0.256.0.0", "track 2 2 = 0.1.0.10.5",
                    "redo = true", "count 1 = 3", "count 2 = 0", "! redo = false", "undo = true",
                    // What it did can be done by itself too, as all is as it was ahead of it.
                    edit + " = true", "count 2 = 0");
        }
    }

    private static void promise15NoneThatCanBe() {
        sentences.holds("15: false if there is none that can be",
                "! redo = false", "clip 20", "sequence", "pick 0 0 1 1 1", "! redo = false", "overwrite 1 0 0",
                "! redo = false", "undo", "redo = true", "! redo = false", "! redo = false", "track 1 0 = 0.0.0.0.1");
    }

    private static void promise15LatestUndoneFirst() {
        sentences.holds("15: the latest edit that was undone",
                room(), "overwrite 2 1 20", "style 1 0 10 1 9", "undo", "undo", "undo", "redo = true",
                "track 1 0 = 0.1.0.10.5", "track 2 1 =", "redo = true", "track 2 1 = 0.1.0.20.5",
                "looks 1 0 0 = 1.1.0.256.0.0", "undo = true", "track 2 1 =", "redo = true", "redo = true",
                "looks 1 0 0 = 1.1.1.9.0.0", "! redo = false");
    }

    private static void promise15NoOtherEdit() {
        for (String edit : EDITS) {
            sentences.holds("Terms: done again as long as no other edit was done: " + edit,
                    room(), "overwrite 2 2 10", "overwrite 1 2 100", "overwrite 1 1 100", "undo", "undo",
                    "count 2 = 2", edit + " = true", "count 1 = 3", "count 2 = 0", "! redo = false",
                    "event 1 1 NONE 0 = 0", "undo = true", "count 2 = 1", "redo = true", "! redo = false");
        }
    }

    private static void promise15RefusedEditsAreNone() {
        for (String edit : BAD_EDITS) {
            sentences.holds("Terms: a refused edit is no edit that was done: " + edit,
                    room(), "overwrite 2 2 10", "overwrite 1 1 100", "undo", "! " + edit + " = false",
                    "count 1 = 2", "count 2 = 1", "redo = true", "track 1 1 = 0.1.0.100.5", "! " + edit + " = false",
                    "count 1 = 3");
        }
    }

    private static void promise15OtherCallsAreNoEdits() {
        sentences.holds("Terms: what is no edit leaves what was undone",
                room(), "overwrite 1 1 100", "undo", "clip 4 = 3", "sequence = 4", "paint 0 0 0 15 1",
                "pick 3 0 1 1 1", "pixel 1 0 0", "event 1 0 0 0", "about 1 1", "count 0 = 5", "count 2 = 1",
                "! clip 0 = IllegalArgumentException", "! paint 0 0 0 16 1 = false",
                "! pick 0 0 0 1 1 = IllegalArgumentException", "! event 1 0 9 0 = IndexOutOfBoundsException",
                "redo = true", "track 1 1 = 0.1.0.100.5");
        sentences.holds("Terms: sources and pictures are not undone",
                "clip 2", "sequence", "pick 0 0 1 1 1", "overwrite 1 0 0", "sequence", "clip 1", "paint 0 0 0 15 7",
                "undo", "count 0 = 4", "pixel 0 0 0 = 7", "overwrite 2 0 0 = true", "pixel 2 0 0 = 7");
    }

    private static void promise15FortyAgain() {
        sentences.holds("15: 40 are done again",
                room(), levels(44), Sentences.times(40, i -> "undo"), "event 1 0 0 8 = 4",
                Sentences.times(40, i -> "redo = true"), "! redo = false", "event 1 0 0 8 = 44", "count 1 = 40",
                "count 2 = 0", Sentences.times(40, i -> "undo = true"), "! undo = false", "event 1 0 0 8 = 4");
    }

    private static void promise19Counts() {
        sentences.holds("19: sources, from none to 16",
                "count 0 = 0", Sentences.times(32, i -> i % 2 == 1 ? "count 0 = " + (i + 1) / 2
                        : i % 4 == 0 ? "clip 1" : "sequence"),
                "! clip 1 = IllegalStateException", "count 0 = 16");
        sentences.holds("19: edits that can be undone, and done again",
                room(), "count 1 = 1", "count 2 = 0", levels(2), "count 1 = 3", "undo", "count 1 = 2", "count 2 = 1",
                "undo", "count 1 = 1", "count 2 = 2", "undo", "count 1 = 0", "count 2 = 3", "! undo = false",
                "redo", "count 1 = 1", "count 2 = 2", "style 1 0 10 0 9", "count 1 = 2", "count 2 = 0",
                "! redo = false");
    }

    private static void promise19AnotherWhat() {
        sentences.holds("19: NONE for another what",
                Sentences.refused("count ?", "-1", -1, -2, 3, 4, "MAX", "MIN"), room(),
                Sentences.refused("count ?", "-1", -1, 3, "MAX", "MIN"));
    }
}
