import java.util.List;

/** The edges of promises 1 to 4: a new object, clip, sequence, paint; one test for each sentence. */
public final class SourcesEdgesTest {
    private static final String ARGUMENT = "IllegalArgumentException";
    private static final String STATE = "IllegalStateException";
    private static final String INDEX = "IndexOutOfBoundsException";

    private static final Sentences sentences = new Sentences();

    public static void main(String[] args) {
        promise1NoSources();
        promise1NothingIsPicked();
        promise2FewestAndMostPictures();
        promise2NumbersAreTold();
        promise2BlackAtFirst();
        promise2SixteenSources();
        promise2ArgumentAheadOfState();
        promise3WithoutEvents();
        promise3SixteenSources();
        promise3NumberedTogether();
        promise4FromTo();
        promise4IsNoEdit();
        promise4NoSuchClip();
        promise4NoSuchPicture();
        promise4FromAndTo();
        promise4NoColour();
        sentences.end();
    }

    private static void promise1NoSources() {
        sentences.holds("1: no sources",
                "count 0 = 0", "count 1 = 0", "count 2 = 0",
                "! about 0 0 = " + INDEX, "! pixel 0 0 0 = " + INDEX, "! event 0 0 NONE 0 = " + INDEX,
                "! event 0 0 0 0 = " + INDEX, "! paint 0 0 0 15 1 = false", "! pick 0 0 1 1 1 = " + ARGUMENT,
                "! undo = false", "! redo = false",
                "! insert 0 0 0 = false", "! overwrite 0 0 0 = false", "! lift 0 0 0 1 = false",
                "! extract 0 0 1 = false", "! blade 0 0 1 = false", "! trim 0 0 0 1 1 = false",
                "! cross 0 0 0 1 0 = false", "! style 0 0 0 1 0 = false",
                "clip 1 = 0");
    }

    private static void promise1NothingIsPicked() {
        sentences.holds("1: nothing is picked",
                "clip 4 = 0", "sequence = 1", "! insert 1 0 0 = false", "! overwrite 1 0 0 = false",
                "pick 0 0 1 1 1 = done", "insert 1 0 0 = true", "overwrite 1 0 0 = true");
        sentences.holds("1: what one object has picked, another has not",
                "clip 4 = 0", "sequence = 1", "! insert 1 2 199 = false", "! overwrite 1 2 199 = false");
    }

    private static void promise2FewestAndMostPictures() {
        sentences.holds("2: IllegalArgumentException if that is not 1 .. 40",
                Sentences.refused("clip ?", ARGUMENT, 0, -1, 41, 42, "MAX", "MIN"),
                "clip 1 = 0", "clip 40 = 1", "about 0 1 = 1", "about 1 1 = 40",
                Sentences.refused("clip ?", ARGUMENT, 0, 41), "clip 2 = 2", "clip 39 = 3");
    }

    private static void promise2NumbersAreTold() {
        sentences.holds("2: a clip's number",
                Sentences.times(16, i -> "clip " + (i + 1) + " = " + i),
                Sentences.times(16, i -> "about " + i + " 1 = " + (i + 1)),
                Sentences.times(16, i -> "about " + i + " 0 = 0"));
    }

    private static void promise2BlackAtFirst() {
        sentences.holds("2: black (0) at first",
                "clip 40", Sentences.times(16, p -> "pixel 0 0 " + p + " = 0"),
                Sentences.times(40, n -> "pixel 0 " + n + " " + n % 16 + " = 0"),
                Sentences.times(16, p -> "pixel 0 39 " + p + " = 0"),
                "paint 0 39 0 15 1", "clip 40", "pixel 1 39 0 = 0");
    }

    private static void promise2SixteenSources() {
        sentences.holds("2: IllegalStateException if there are 16 sources",
                Sentences.times(15, i -> "clip 1 = " + i), "clip 40 = 15",
                Sentences.refused("clip ?", STATE, 1, 2, 39, 40), "count 0 = 16");
        sentences.holds("2: sequences are sources too",
                Sentences.times(15, i -> "sequence = " + i), "clip 1 = 15",
                Sentences.refused("clip ?", STATE, 1, 40), "count 0 = 16");
    }

    private static void promise2ArgumentAheadOfState() {
        sentences.holds("2: IllegalStateException is behind IllegalArgumentException",
                Sentences.times(16, i -> i % 2 == 0 ? "clip 1" : "sequence"),
                Sentences.refused("clip ?", ARGUMENT, 0, -1, 41, "MAX", "MIN"),
                "! clip 1 = " + STATE);
    }

    private static void promise3WithoutEvents() {
        sentences.holds("3: a sequence without events",
                "clip 3", "sequence = 1",
                Sentences.times(3, t -> "event 1 " + t + " NONE 0 = 0"),
                Sentences.times(3, t -> "! event 1 " + t + " 0 0 = " + INDEX),
                "about 1 0 = 1", "about 1 1 = 0", "about 1 2 = 0", "about 1 3 = 0",
                "pick 0 0 3 1 1", "overwrite 1 0 0", "sequence = 2",
                Sentences.times(3, t -> "event 2 " + t + " NONE 0 = 0"));
    }

    private static void promise3SixteenSources() {
        sentences.holds("3: IllegalStateException if there are 16 sources",
                Sentences.times(15, i -> "sequence = " + i), "sequence = 15", "! sequence = " + STATE,
                "! sequence = " + STATE, "count 0 = 16");
        sentences.holds("3: clips are sources too",
                Sentences.times(15, i -> "clip 1 = " + i), "sequence = 15", "! sequence = " + STATE);
        sentences.holds("3: the last source is a good one",
                Sentences.times(15, i -> "clip 1 = " + i), "sequence = 15", "pick 14 0 1 1 1",
                "insert 15 2 199 = true", "track 15 2 = 14.0.0.199.1");
    }

    private static void promise3NumberedTogether() {
        sentences.holds("Terms: clips and sequences, numbered together as they are made",
                "sequence = 0", "clip 7 = 1", "sequence = 2", "sequence = 3", "clip 5 = 4", "count 0 = 5",
                "! clip 0 = " + ARGUMENT, "sequence = 5",
                "about 0 0 = 1", "about 1 0 = 0", "about 2 0 = 1", "about 3 0 = 1", "about 4 0 = 0");
    }

    /** Clip 0 with three pictures, all of colour 9; sequence 1. */
    private static List<String> painted() {
        return List.of("clip 3", "sequence", "paint 0 0 0 15 9", "paint 0 1 0 15 9", "paint 0 2 0 15 9");
    }

    private static void promise4FromTo() {
        for (int[] span : new int[][] {{0, 0}, {15, 15}, {0, 15}, {0, 1}, {14, 15}, {7, 8}, {1, 14}}) {
            sentences.holds("4: pixels from .. to: " + span[0] + " .. " + span[1],
                    painted(), "paint 0 1 " + span[0] + " " + span[1] + " 0x123456 = true",
                    Sentences.times(16, p -> "pixel 0 1 " + p + " = "
                            + (span[0] <= p && p <= span[1] ? 0x123456 : 9)),
                    Sentences.times(16, p -> "pixel 0 0 " + p + " = 9"),
                    Sentences.times(16, p -> "pixel 0 2 " + p + " = 9"));
        }
        sentences.holds("4: true too if the pixels have the colour",
                painted(), "paint 0 1 0 15 9 = true", "paint 0 1 0 15 9 = true");
    }

    private static void promise4IsNoEdit() {
        sentences.holds("4: this is no edit",
                painted(), "count 1 = 0", "undo = false", "pixel 0 0 0 = 9",
                "pick 0 0 3 1 1", "overwrite 1 0 0", "overwrite 1 0 5", "undo",
                "paint 0 0 0 15 8 = true", "count 1 = 1", "count 2 = 1", "redo = true", "undo", "undo",
                "undo = false", "pixel 0 0 0 = 8");
    }

    private static void promise4NoSuchClip() {
        sentences.holds("4: false if there is no such clip",
                painted(), Sentences.refused("paint ? 0 0 15 1", "false", -1, 1, 2, 3, 15, 16, "MAX", "MIN"),
                "clip 1 = 2", "paint 2 0 0 15 1 = true", "! paint 3 0 0 15 1 = false");
        sentences.holds("4: the last clip of a full room",
                Sentences.times(16, i -> "clip 1"), "paint 15 0 0 15 1 = true", "! paint 16 0 0 15 1 = false",
                "pixel 15 0 0 = 1", "pixel 14 0 0 = 0");
    }

    private static void promise4NoSuchPicture() {
        sentences.holds("4: or picture",
                painted(), Sentences.refused("paint 0 ? 0 15 1", "false", -1, 3, 4, 40, "MAX", "MIN"),
                "paint 0 0 0 15 1 = true", "paint 0 2 0 15 2 = true", "pixel 0 0 0 = 1", "pixel 0 1 0 = 9",
                "pixel 0 2 0 = 2");
        sentences.holds("4: or picture, of one and of 40",
                "clip 1", "clip 40", "! paint 0 1 0 15 1 = false", "paint 0 0 0 15 1 = true",
                "! paint 1 40 0 15 1 = false", "paint 1 39 0 15 1 = true", "pixel 1 38 0 = 0", "pixel 1 39 0 = 1");
    }

    private static void promise4FromAndTo() {
        sentences.holds("4: 0 <= from",
                painted(), Sentences.refused("paint 0 0 ? 15 1", "false", -1, -2, "MIN"), "paint 0 0 0 15 1 = true");
        sentences.holds("4: from <= to",
                painted(), Sentences.refused("paint 0 0 ? 7 1", "false", 8, 9, 15, 16, "MAX"),
                Sentences.refused("paint 0 0 7 ? 1", "false", 6, 0, -1, "MIN"), "! paint 0 0 15 14 1 = false",
                "! paint 0 0 1 0 1 = false", "paint 0 0 7 7 1 = true", "pixel 0 0 6 = 9", "pixel 0 0 7 = 1");
        sentences.holds("4: to <= 15",
                painted(), Sentences.refused("paint 0 0 0 ? 1", "false", 16, 17, "MAX"),
                "! paint 0 0 16 16 1 = false", "! paint 0 0 15 16 1 = false", "! paint 0 0 -1 -1 1 = false",
                "! paint 0 0 MAX MAX 1 = false", "! paint 0 0 MIN MIN 1 = false", "! paint 0 0 MIN MAX 1 = false",
                "paint 0 0 15 15 1 = true");
    }

    private static void promise4NoColour() {
        sentences.holds("4: or the colour is none",
                painted(),
                Sentences.refused("paint 0 0 0 15 ?", "false", -1, "0x1000000", "0x1000001", "MAX", "MIN"),
                "paint 0 0 0 15 0 = true", "pixel 0 0 15 = 0", "paint 0 0 0 15 0xFFFFFF = true",
                "pixel 0 0 15 = 16777215", "paint 0 0 0 0 0xFF0000 = true", "pixel 0 0 0 = 16711680",
                "paint 0 0 0 0 0x00FF00 = true", "pixel 0 0 0 = 65280", "paint 0 0 0 0 0x0000FF = true",
                "pixel 0 0 0 = 255");
    }
}
