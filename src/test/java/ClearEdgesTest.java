import java.util.List;

/** The edges of promises 8 to 10, lift, extract and blade, and of the terms TO CUT and TO CLEAR. */
public final class ClearEdgesTest {
    private static final Sentences sentences = new Sentences();

    public static void main(String[] args) {
        promise8Cleared();
        promise8FromAndTo();
        promise8NoEventCoversOne();
        promise8Thirty();
        promise9ClearedAndMoved();
        promise9OnAllTracks();
        promise9FromAndTo();
        promise9NothingCoversOrStartsBehind();
        promise9Thirty();
        promise10WhereItIsCut();
        promise10ItsFirstFrame();
        promise10Thirty();
        whatACutLeaves();
        sentences.end();
    }

    /** Clip 0 with 20 pictures; sequence 1 with events at 10 .. 14 and 15 .. 19 on track 1. */
    private static List<String> room() {
        return List.of("clip 20", "sequence", "pick 0 1 5 1 1", "overwrite 1 1 10", "overwrite 1 1 15");
    }

    /** Clip 0 with 20 pictures; sequence 1 with so many events of four frames on track 0, without gaps. */
    private static List<Object> rowOf(int events) {
        return List.of("clip 20", "sequence", "pick 0 0 4 1 1",
                Sentences.times(events, i -> "overwrite 1 0 " + 4 * i));
    }

    private static void lifted(String what, int from, int to, String left) {
        sentences.holds("8 and TO CLEAR: " + what,
                room(), "lift 1 1 " + from + " " + to + " = true", "track 1 1 = " + left, "count 1 = 3", "undo",
                "track 1 1 = 0.1.0.10.5 0.1.0.15.5");
    }

    private static void promise8Cleared() {
        lifted("the first frame of one", 10, 11, "0.1.1.11.4 0.1.0.15.5");
        lifted("its second frame", 11, 12, "0.1.0.10.1 0.1.2.12.3 0.1.0.15.5");
        lifted("the one ahead of its last frame", 13, 14, "0.1.0.10.3 0.1.4.14.1 0.1.0.15.5");
        lifted("its last frame", 14, 15, "0.1.0.10.4 0.1.0.15.5");
        lifted("the frames of one, and no more", 10, 15, "0.1.0.15.5");
        lifted("the frames of the other one, and no more", 15, 20, "0.1.0.10.5");
        lifted("the frames of both, and no more", 10, 20, "");
        lifted("all but the first and the last", 11, 19, "0.1.0.10.1 0.1.4.19.1");
        lifted("one and the first frame of the next", 10, 16, "0.1.1.16.4");
        lifted("one and the last frame of that ahead", 14, 20, "0.1.0.10.4");
        lifted("what there is ahead, up to its first frame", 0, 11, "0.1.1.11.4 0.1.0.15.5");
        lifted("what there is behind, from its last frame on", 19, 200, "0.1.0.10.5 0.1.0.15.4");
        lifted("all frames", 0, 200, "");
    }

    private static void promise8FromAndTo() {
        sentences.holds("8: from is not less than to",
                room(), "! lift 1 1 12 12 = false", "! lift 1 1 13 12 = false", "! lift 1 1 20 10 = false",
                "! lift 1 1 10 10 = false", "! lift 1 1 200 0 = false", "! lift 1 1 MAX MIN = false",
                "! lift 1 1 MIN MAX = false", "lift 1 1 12 13 = true");
        sentences.holds("8: to is at most 200",
                room(), Sentences.refused("lift 1 1 12 ?", "false", 201, 202, "MAX"), "lift 1 1 12 200 = true");
        sentences.holds("8: from is a frame",
                room(), Sentences.refused("lift 1 1 ? 20", "false", -1, -2, "MIN"), "lift 1 1 0 20 = true");
        sentences.holds("8: the first and the last frame",
                "clip 20", "sequence", "pick 0 0 1 1 1", "overwrite 1 0 0", "overwrite 1 0 199",
                "! lift 1 0 200 200 = false", "! lift 1 0 199 199 = false", "! lift 1 0 0 0 = false",
                "! lift 1 0 -1 0 = false", "! lift 1 0 -1 1 = false", "! lift 1 0 199 201 = false",
                "! lift 1 0 200 201 = false", "lift 1 0 199 200 = true", "track 1 0 = 0.0.0.0.1",
                "lift 1 0 0 1 = true", "track 1 0 =");
    }

    private static void promise8NoEventCoversOne() {
        sentences.holds("8: or no event covers one of them",
                room(), "! lift 1 1 9 10 = false", "! lift 1 1 0 10 = false", "! lift 1 1 20 21 = false",
                "! lift 1 1 20 200 = false", "! lift 1 0 0 200 = false", "! lift 1 2 10 20 = false",
                "lift 1 1 9 11 = true", "! lift 1 1 9 11 = false", "lift 1 1 19 21 = true",
                "! lift 1 1 19 21 = false");
        sentences.holds("8: an empty track",
                "sequence", "! lift 0 0 0 200 = false", "! lift 0 1 0 1 = false", "! lift 0 2 199 200 = false");
        sentences.holds("8: a gap",
                room(), "lift 1 1 13 17", "! lift 1 1 13 17 = false", "! lift 1 1 14 16 = false",
                "lift 1 1 12 17 = true", "lift 1 1 12 18 = true", "track 1 1 = 0.1.0.10.2 0.1.3.18.2");
    }

    private static void promise8Thirty() {
        sentences.holds("8: a track would have more than 30 events",
                rowOf(30), "! lift 1 0 1 2 = false", "! lift 1 0 117 119 = false", "lift 1 0 0 1 = true",
                "lift 1 0 119 120 = true", "event 1 0 NONE 0 = 30", "! lift 1 0 5 6 = false",
                "lift 1 0 7 9 = true", "event 1 0 NONE 0 = 30");
        sentences.holds("8: 30 events are left of 29",
                rowOf(29), "lift 1 0 1 2 = true", "event 1 0 NONE 0 = 30");
        sentences.holds("8: 30 events are left, as one is gone",
                rowOf(30), "lift 1 0 2 10 = true", "event 1 0 NONE 0 = 29", "lift 1 0 13 15 = true",
                "event 1 0 NONE 0 = 30");
    }

    private static void extracted(String what, int from, int to, String left) {
        sentences.holds("9: " + what,
                room(), "extract 1 " + from + " " + to + " = true", "track 1 1 = " + left, "count 1 = 3", "undo",
                "track 1 1 = 0.1.0.10.5 0.1.0.15.5");
    }

    private static void promise9ClearedAndMoved() {
        extracted("the frame ahead of all", 9, 10, "0.1.0.9.5 0.1.0.14.5");
        extracted("all frames ahead", 0, 10, "0.1.0.0.5 0.1.0.5.5");
        extracted("the first frame", 0, 1, "0.1.0.9.5 0.1.0.14.5");
        extracted("the first frame of one", 10, 11, "0.1.1.10.4 0.1.0.14.5");
        extracted("its second frame", 11, 12, "0.1.0.10.1 0.1.2.11.3 0.1.0.14.5");
        extracted("its last frame", 14, 15, "0.1.0.10.4 0.1.0.14.5");
        extracted("one, and no more", 10, 15, "0.1.0.10.5");
        extracted("the last frame of the last", 19, 20, "0.1.0.10.5 0.1.0.15.4");
        extracted("from the last frame on", 19, 200, "0.1.0.10.5 0.1.0.15.4");
        extracted("both", 10, 20, "");
        extracted("up to the last frame", 0, 19, "0.1.4.0.1");
        extracted("all frames", 0, 200, "");
    }

    private static void promise9OnAllTracks() {
        sentences.holds("9: of all tracks",
                room(), "overwrite 1 0 11", "overwrite 1 2 12", "overwrite 1 2 100", "extract 1 12 15 = true",
                "track 1 0 = 0.1.0.11.1 0.1.4.12.1", "track 1 1 = 0.1.0.10.2 0.1.0.12.5",
                "track 1 2 = 0.1.3.12.2 0.1.0.97.5", "about 1 1 = 102");
        sentences.holds("9: of no other sequence",
                room(), "sequence", "overwrite 2 0 30", "extract 1 0 5 = true", "track 2 0 = 0.1.0.30.5");
    }

    private static void promise9FromAndTo() {
        sentences.holds("9: from is not less than to",
                room(), "! extract 1 12 12 = false", "! extract 1 13 12 = false", "! extract 1 0 0 = false",
                "! extract 1 200 0 = false", "! extract 1 MAX MIN = false", "! extract 1 MIN MAX = false",
                "extract 1 12 13 = true");
        sentences.holds("9: to is at most 200",
                room(), Sentences.refused("extract 1 12 ?", "false", 201, 202, "MAX"), "extract 1 12 200 = true");
        sentences.holds("9: from is a frame",
                room(), Sentences.refused("extract 1 ? 20", "false", -1, -2, "MIN"), "extract 1 0 20 = true");
        sentences.holds("9: the last frame",
                "clip 20", "sequence", "pick 0 0 1 1 1", "overwrite 1 2 199", "! extract 1 199 201 = false",
                "! extract 1 200 200 = false", "! extract 1 200 201 = false", "extract 1 199 200 = true",
                "about 1 1 = 0");
    }

    private static void promise9NothingCoversOrStartsBehind() {
        for (int track = 0; track < 3; track++) {
            sentences.holds("9: or nothing covers one of them or starts behind, track " + track,
                    "clip 20", "sequence", "pick 0 0 5 1 1", "overwrite 1 " + track + " 10",
                    "! extract 1 15 16 = false", "! extract 1 15 200 = false", "! extract 1 199 200 = false",
                    "extract 1 14 15 = true", "! extract 1 14 15 = false", "extract 1 9 10 = true",
                    "track 1 " + track + " = 0.0.0.9.4", "extract 1 0 9 = true", "track 1 " + track + " = 0.0.0.0.4",
                    "! extract 1 4 5 = false", "extract 1 0 4 = true", "! extract 1 0 200 = false");
        }
        sentences.holds("9: an empty sequence", "sequence", "! extract 0 0 200 = false", "! extract 0 0 1 = false");
    }

    private static void promise9Thirty() {
        sentences.holds("9: a track would have more than 30 events",
                rowOf(30), "! extract 1 1 2 = false", "! extract 1 118 119 = false", "extract 1 0 1 = true",
                "event 1 0 NONE 0 = 30", "extract 1 1 9 = true", "event 1 0 NONE 0 = 29");
        sentences.holds("9: 30 events are left of 29",
                rowOf(29), "extract 1 1 2 = true", "event 1 0 NONE 0 = 30", "! extract 1 5 6 = false");
        sentences.holds("9: another track counts too",
                rowOf(30), "overwrite 1 1 0", "! extract 1 1 3 = false", "extract 1 0 3 = true",
                "track 1 1 = 0.0.3.0.1");
    }

    private static void bladed(String what, int at, String left) {
        sentences.holds("10: " + what, room(), "blade 1 1 " + at + " = true", "track 1 1 = " + left, "undo",
                "track 1 1 = 0.1.0.10.5 0.1.0.15.5");
    }

    private static void promise10WhereItIsCut() {
        bladed("at its second frame", 11, "0.1.0.10.1 0.1.1.11.4 0.1.0.15.5");
        bladed("at its last frame", 14, "0.1.0.10.4 0.1.4.14.1 0.1.0.15.5");
        bladed("at the second frame of the next", 16, "0.1.0.10.5 0.1.0.15.1 0.1.1.16.4");
        bladed("at the last frame of the next", 19, "0.1.0.10.5 0.1.0.15.4 0.1.4.19.1");
        sentences.holds("10: at frame 199",
                "sequence", "sequence", "pick 0 0 200 1 1", "overwrite 1 0 0", "! blade 1 0 0 = false",
                "! blade 1 0 200 = false", "blade 1 0 199 = true", "blade 1 0 1 = true",
                "track 1 0 = 0.0.0.0.1 0.0.1.1.198 0.0.199.199.1", "! blade 1 0 199 = false");
    }

    private static void promise10ItsFirstFrame() {
        sentences.holds("10: false also if that is its first",
                room(), "! blade 1 1 10 = false", "! blade 1 1 15 = false", "blade 1 1 12 = true",
                "! blade 1 1 12 = false", "blade 1 1 11 = true", "! blade 1 1 11 = false", "! blade 1 1 10 = false");
        sentences.holds("10: none covers it",
                room(), "! blade 1 1 9 = false", "! blade 1 1 20 = false", "! blade 1 0 12 = false",
                "! blade 1 2 12 = false");
    }

    private static void promise10Thirty() {
        sentences.holds("10: a track would have more than 30 events",
                rowOf(29), "blade 1 0 1 = true", "event 1 0 NONE 0 = 30", "! blade 1 0 2 = false",
                "! blade 1 0 115 = false", "undo", "blade 1 0 115 = true", "event 1 0 NONE 0 = 30",
                "event 1 0 29 4 = 1");
    }

    private static void whatACutLeaves() {
        String head = "0.1.0.10.2";
        String rest = "0.1.2.12.3";
        for (String cut : new String[] {"blade 1 0 12", "insert 1 1 12", "lift 1 0 12 13", "extract 1 12 13"}) {
            boolean isShorter = cut.startsWith("lift") || cut.startsWith("extract");
            String moved = cut.startsWith("insert") ? "0.1.2.13.3"
                    : !isShorter ? rest : cut.startsWith("lift") ? "0.1.3.13.2" : "0.1.3.12.2";
            sentences.holds("TO CUT: the head keeps its looks, the rest has no crossing: " + cut,
                    "clip 20", "sequence", "pick 0 1 5 2 3", "overwrite 1 0 10", "style 1 0 10 3 77",
                    "cross 1 0 10 2 5", "pick 0 0 1 1 1", cut + " = true", "track 1 0 = " + head + " " + moved,
                    "looks 1 0 0 = 2.3.3.77.2.5", "looks 1 0 1 = 2.3.3.77.0.0");
        }
        sentences.holds("TO CUT: its SKIP is more by as many as were ahead, of one that was cut",
                room(), "blade 1 1 12", "blade 1 1 13", "trim 1 1 15 0 1", "blade 1 1 18",
                "track 1 1 = 0.1.0.10.2 0.1.2.12.1 0.1.3.13.2 0.1.1.16.2 0.1.3.18.2");
    }
}
