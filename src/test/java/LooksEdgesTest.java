import java.util.List;

/** The edges of promises 12 and 13, cross and style; one test for each sentence. */
public final class LooksEdgesTest {
    private static final Sentences sentences = new Sentences();

    public static void main(String[] args) {
        promise12Kinds();
        promise12Frames();
        promise12FramesOfOneAndOf200();
        promise12ItHasThat();
        promise12OfNoOther();
        promise12ItsLengthNow();
        promise13Blends();
        promise13Levels();
        promise13ItHasThese();
        promise13OfNoOther();
        sentences.end();
    }

    /** Clip 0 with 20 pictures; sequence 1 with events at 10 .. 14 and 15 .. 18 on track 0 and 15 .. 18 on track 1. */
    private static List<String> room() {
        return List.of("clip 20", "sequence", "pick 0 1 5 1 1", "overwrite 1 0 10", "pick 0 2 4 1 1",
                "overwrite 1 0 15", "overwrite 1 1 15");
    }

    private static void promise12Kinds() {
        sentences.holds("12: kind is not 0 .. 2",
                room(), Sentences.refused("cross 1 0 15 ? 2", "false", -1, -2, 3, 4, "MAX", "MIN"),
                Sentences.refused("cross 1 0 15 ? 0", "false", -1, 3), "cross 1 0 15 2 2 = true",
                "looks 1 0 1 = 1.1.0.256.2.2", "cross 1 0 15 1 2 = true", "looks 1 0 1 = 1.1.0.256.1.2",
                "cross 1 0 15 0 2 = true", "looks 1 0 1 = 1.1.0.256.0.2");
    }

    private static void promise12Frames() {
        for (int kind = 0; kind <= 2; kind++) {
            sentences.holds("12: frames are not 0 .. its LENGTH, kind " + kind,
                    room(), Sentences.refused("cross 1 0 15 " + kind + " ?", "false", -1, -2, 5, 6, 200, "MAX", "MIN"),
                    "cross 1 0 15 " + kind + " 4 = true", "looks 1 0 1 = 1.1.0.256." + kind + ".4",
                    "cross 1 0 15 " + kind + " 0 = true", "looks 1 0 1 = 1.1.0.256." + kind + ".0");
        }
    }

    private static void promise12FramesOfOneAndOf200() {
        sentences.holds("12: an event of one frame",
                room(), "pick 0 0 1 1 1", "overwrite 1 2 199", "! cross 1 2 199 1 2 = false",
                "! cross 1 2 199 1 -1 = false", "cross 1 2 199 1 1 = true", "cross 1 2 199 1 0 = true");
        sentences.holds("12: an event of 200 frames",
                room(), "sequence", "pick 2 0 200 1 1", "overwrite 1 2 0", "! cross 1 2 0 2 201 = false",
                "cross 1 2 199 2 200 = true", "looks 1 2 0 = 1.1.0.256.2.200");
    }

    private static void promise12ItHasThat() {
        sentences.holds("12: or it has that, at first",
                room(), "! cross 1 0 15 0 0 = false", "cross 1 0 15 1 0 = true", "! cross 1 0 15 1 0 = false",
                "! cross 1 0 18 1 0 = false", "cross 1 0 15 0 0 = true");
        sentences.holds("12: or it has that, later",
                room(), "cross 1 0 15 1 3 = true", "! cross 1 0 16 1 3 = false", "cross 1 0 16 2 3 = true",
                "! cross 1 0 16 2 3 = false", "cross 1 0 16 2 2 = true", "! cross 1 0 16 2 2 = false",
                "undo", "! cross 1 0 16 2 3 = false", "cross 1 0 16 2 2 = true");
    }

    private static void promise12OfNoOther() {
        sentences.holds("12: the event that covers a frame, and no other",
                room(), "cross 1 0 15 2 4 = true", "looks 1 0 0 = 1.1.0.256.0.0", "looks 1 1 0 = 1.1.0.256.0.0",
                "cross 1 0 14 1 5 = true", "looks 1 0 0 = 1.1.0.256.1.5", "looks 1 0 1 = 1.1.0.256.2.4",
                "track 1 0 = 0.1.0.10.5 0.2.0.15.4", "! cross 1 0 9 1 1 = false", "! cross 1 0 19 1 1 = false");
    }

    private static void promise12ItsLengthNow() {
        sentences.holds("12: 0 .. its LENGTH, once it is longer or shorter",
                room(), "trim 1 0 15 1 2", "! cross 1 0 15 1 7 = false", "cross 1 0 15 1 6 = true", "trim 1 0 15 1 -3",
                "looks 1 0 1 = 1.1.0.256.1.6", "! cross 1 0 15 1 6 = false", "! cross 1 0 15 2 6 = false",
                "! cross 1 0 15 1 4 = false", "cross 1 0 15 1 3 = true");
    }

    private static void promise13Blends() {
        sentences.holds("13: blend is not 0 .. 4",
                room(), Sentences.refused("style 1 0 15 ? 9", "false", -1, -2, 5, 6, "MAX", "MIN"),
                Sentences.refused("style 1 0 15 ? 256", "false", -1, 5), "style 1 0 15 4 9 = true",
                "looks 1 0 1 = 1.1.4.9.0.0", "style 1 0 15 0 9 = true", "looks 1 0 1 = 1.1.0.9.0.0",
                Sentences.times(3, i -> "style 1 0 15 " + (i + 1) + " 9 = true"));
    }

    private static void promise13Levels() {
        for (int blend = 0; blend <= 4; blend++) {
            sentences.holds("13: level is not 0 .. 256, blend " + blend,
                    room(), Sentences.refused("style 1 0 15 " + blend + " ?", "false", -1, -2, 257, 258, "MAX", "MIN"),
                    "style 1 0 15 " + blend + " 0 = true", "looks 1 0 1 = 1.1." + blend + ".0.0.0",
                    "style 1 0 15 " + blend + " 256 = true", "looks 1 0 1 = 1.1." + blend + ".256.0.0");
        }
    }

    private static void promise13ItHasThese() {
        sentences.holds("13: or it has these, at first",
                room(), "! style 1 0 15 0 256 = false", "style 1 0 15 0 255 = true", "! style 1 0 15 0 255 = false",
                "style 1 0 15 0 256 = true", "! style 1 0 18 0 256 = false");
        sentences.holds("13: or it has these, later",
                room(), "style 1 0 15 3 77 = true", "! style 1 0 16 3 77 = false", "style 1 0 16 2 77 = true",
                "! style 1 0 16 2 77 = false", "style 1 0 16 2 76 = true", "! style 1 0 16 2 76 = false", "undo",
                "! style 1 0 16 2 77 = false");
    }

    private static void promise13OfNoOther() {
        sentences.holds("13: the event that covers a frame, and no other",
                room(), "style 1 0 15 1 7 = true", "looks 1 0 0 = 1.1.0.256.0.0", "looks 1 1 0 = 1.1.0.256.0.0",
                "style 1 0 14 2 8 = true", "looks 1 0 0 = 1.1.2.8.0.0", "looks 1 0 1 = 1.1.1.7.0.0",
                "track 1 0 = 0.1.0.10.5 0.2.0.15.4", "! style 1 0 9 1 1 = false", "! style 1 0 19 1 1 = false");
    }
}
