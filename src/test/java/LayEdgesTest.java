import java.util.List;

/** The edges of promises 6 and 7, insert and overwrite; one test for each sentence. */
public final class LayEdgesTest {
    private static final Sentences sentences = new Sentences();

    public static void main(String[] args) {
        promise6WhereEventsAreCut();
        promise6OnAllTracks();
        promise6WhatMoves();
        promise6Frames();
        promise6WithinTheFrames();
        promise6WhatMovesStaysWithinTheFrames();
        promise6Thirty();
        promise6ThirtyOnAnotherTrack();
        promise6NothingIsPicked();
        promise7FramesAreCleared();
        promise7OnTheTrackAlone();
        promise7Frames();
        promise7WithinTheFrames();
        promise7Thirty();
        promise7NothingIsPicked();
        sentences.end();
    }

    /** Clip 0 with 20 pictures; sequence 1 with an event at 10 .. 14 on track 0. A pick of two frames. */
    private static List<String> oneEvent() {
        return List.of("clip 20", "sequence", "pick 0 1 5 1 1", "overwrite 1 0 10", "pick 0 9 2 1 1");
    }

    /** Clip 0 with 20 pictures; sequence 1 with so many events of four frames on a track, without gaps. */
    private static List<Object> rowOf(int events, int track) {
        return List.of("clip 20", "sequence", "pick 0 0 4 1 1",
                Sentences.times(events, i -> "overwrite 1 " + track + " " + 4 * i));
    }

    private static void promise6WhereEventsAreCut() {
        sentences.holds("6: events that cover frame at and the one ahead: at its first frame it is not cut",
                oneEvent(), "insert 1 0 10 = true", "track 1 0 = 0.9.0.10.2 0.1.0.12.5");
        sentences.holds("6: ahead of its first frame it is not cut",
                oneEvent(), "insert 1 0 9 = true", "track 1 0 = 0.9.0.9.2 0.1.0.12.5");
        sentences.holds("6: at its second frame it is cut",
                oneEvent(), "insert 1 0 11 = true", "track 1 0 = 0.1.0.10.1 0.9.0.11.2 0.1.1.13.4");
        sentences.holds("6: at its last frame it is cut",
                oneEvent(), "insert 1 0 14 = true", "track 1 0 = 0.1.0.10.4 0.9.0.14.2 0.1.4.16.1");
        sentences.holds("6: just behind its last frame it is not cut",
                oneEvent(), "insert 1 0 15 = true", "track 1 0 = 0.1.0.10.5 0.9.0.15.2");
        sentences.holds("6: an event of one frame is never cut",
                "clip 20", "sequence", "pick 0 3 1 1 1", "overwrite 1 0 10", "insert 1 0 10 = true",
                "insert 1 0 12 = true", "track 1 0 = 0.3.0.10.1 0.3.0.11.1 0.3.0.12.1");
    }

    private static void promise6OnAllTracks() {
        sentences.holds("6: on all tracks",
                oneEvent(), "pick 0 1 5 1 1", "overwrite 1 1 9", "overwrite 1 2 8", "pick 0 9 2 1 1",
                "insert 1 1 10 = true", "track 1 0 = 0.1.0.12.5", "track 1 1 = 0.1.0.9.1 0.9.0.10.2 0.1.1.12.4",
                "track 1 2 = 0.1.0.8.2 0.1.2.12.3", "count 1 = 4", "undo", "track 1 0 = 0.1.0.10.5",
                "track 1 1 = 0.1.0.9.5", "track 1 2 = 0.1.0.8.5");
    }

    private static void promise6WhatMoves() {
        sentences.holds("6: those that start there or behind it move on, and no others",
                "clip 20", "sequence", "pick 0 0 1 1 1",
                Sentences.times(3, t -> "overwrite 1 " + t + " " + (19 + t)), "pick 0 9 7 1 1",
                "insert 1 2 20 = true", "track 1 0 = 0.0.0.19.1", "track 1 1 = 0.0.0.27.1",
                "track 1 2 = 0.9.0.20.7 0.0.0.28.1");
        sentences.holds("6: another sequence stays",
                oneEvent(), "sequence", "overwrite 2 0 30", "insert 1 0 0 = true", "track 2 0 = 0.9.0.30.2",
                "track 1 0 = 0.9.0.0.2 0.1.0.12.5");
    }

    private static void promise6Frames() {
        sentences.holds("6: at is 0 .. 199",
                "clip 20", "sequence", "pick 0 0 1 1 1",
                Sentences.refused("insert 1 0 ?", "false", -1, -2, 200, 201, "MAX", "MIN"),
                "insert 1 0 0 = true", "insert 1 0 199 = true", "track 1 0 = 0.0.0.0.1 0.0.0.199.1",
                Sentences.refused("insert 1 1 ?", "false", -1, 200));
    }

    private static void promise6WithinTheFrames() {
        sentences.holds("6: what is laid is within frames 0 .. 199",
                oneEvent(), "! insert 1 1 199 = false", "insert 1 1 198 = true", "track 1 1 = 0.9.0.198.2");
        sentences.holds("6: 200 frames",
                "sequence", "sequence", "pick 0 0 200 1 1", "! insert 1 0 1 = false", "insert 1 0 0 = true",
                "track 1 0 = 0.0.0.0.200", "about 1 1 = 200", "! insert 1 1 0 = false");
    }

    private static void promise6WhatMovesStaysWithinTheFrames() {
        for (int track = 0; track < 3; track++) {
            int other = track;
            sentences.holds("6: what moves is within frames 0 .. 199, track " + track,
                    "clip 20", "sequence", "pick 0 0 5 1 1", "overwrite 1 " + other + " 193",
                    "pick 0 0 3 1 1", "! insert 1 0 0 = false", "! insert 1 0 193 = false",
                    "pick 0 0 2 1 1", "insert 1 0 193 = true", "event 1 " + other + " 0 3 = "
                    + (other == 0 ? 193 : 195), "about 1 1 = 200", "pick 0 0 1 1 1", "! insert 1 1 0 = false");
            sentences.holds("6: the rest of what is cut is within frames 0 .. 199, track " + track,
                    "clip 20", "sequence", "pick 0 0 5 1 1", "overwrite 1 " + other + " 193",
                    "pick 0 0 3 1 1", "! insert 1 0 197 = false", "pick 0 0 2 1 1", "insert 1 0 197 = true",
                    "about 1 1 = 200");
        }
        sentences.holds("6: an event that ends where it is laid does not move",
                "clip 20", "sequence", "pick 0 0 5 1 1", "overwrite 1 1 190", "insert 1 0 195 = true",
                "track 1 1 = 0.0.0.190.5", "track 1 0 = 0.0.0.195.5");
    }

    private static void promise6Thirty() {
        sentences.holds("6: a track would have more than 30 events",
                rowOf(29, 0), "insert 1 0 116 = true", "event 1 0 NONE 0 = 30", "! insert 1 0 120 = false",
                "! insert 1 0 0 = false");
        sentences.holds("6: the cut counts too",
                rowOf(28, 0), "insert 1 0 2 = true", "event 1 0 NONE 0 = 30", "undo", "insert 1 0 4 = true",
                "event 1 0 NONE 0 = 29", "! insert 1 0 2 = false", "insert 1 0 4 = true",
                "event 1 0 NONE 0 = 30");
    }

    private static void promise6ThirtyOnAnotherTrack() {
        sentences.holds("6: a cut on another track makes it more than 30",
                rowOf(30, 2), "! insert 1 0 2 = false", "! insert 1 1 119 = false", "insert 1 0 4 = true",
                "event 1 2 NONE 0 = 30", "event 1 2 1 3 = 8");
        sentences.holds("6: a cut on another track makes it 30",
                rowOf(29, 2), "insert 1 0 2 = true", "event 1 2 NONE 0 = 30", "! insert 1 0 1 = false");
    }

    private static void promise6NothingIsPicked() {
        sentences.holds("6: false also if nothing is picked",
                "sequence", "sequence", Sentences.refused("insert 0 ? 0", "false", 0, 1, 2), "pick 1 0 1 1 1",
                "insert 0 0 0 = true");
    }

    private static void promise7FramesAreCleared() {
        sentences.holds("7: the same frames",
                oneEvent(), "pick 0 9 5 1 1", "overwrite 1 0 10 = true", "track 1 0 = 0.9.0.10.5");
        sentences.holds("7: up to its first frame",
                oneEvent(), "overwrite 1 0 8 = true", "track 1 0 = 0.9.0.8.2 0.1.0.10.5");
        sentences.holds("7: its first frame",
                oneEvent(), "overwrite 1 0 9 = true", "track 1 0 = 0.9.0.9.2 0.1.1.11.4");
        sentences.holds("7: from its first frame on",
                oneEvent(), "overwrite 1 0 10 = true", "track 1 0 = 0.9.0.10.2 0.1.2.12.3");
        sentences.holds("7: from its second frame on",
                oneEvent(), "overwrite 1 0 11 = true", "track 1 0 = 0.1.0.10.1 0.9.0.11.2 0.1.3.13.2");
        sentences.holds("7: up to its last frame",
                oneEvent(), "overwrite 1 0 13 = true", "track 1 0 = 0.1.0.10.3 0.9.0.13.2");
        sentences.holds("7: its last frame",
                oneEvent(), "overwrite 1 0 14 = true", "track 1 0 = 0.1.0.10.4 0.9.0.14.2");
        sentences.holds("7: behind its last frame",
                oneEvent(), "overwrite 1 0 15 = true", "track 1 0 = 0.1.0.10.5 0.9.0.15.2");
        sentences.holds("7: all 200 frames of a full track",
                rowOf(30, 0), "sequence", "pick 2 0 200 1 1", "overwrite 1 0 0 = true", "track 1 0 = 2.0.0.0.200",
                "undo", "event 1 0 NONE 0 = 30");
    }

    private static void promise7OnTheTrackAlone() {
        sentences.holds("7: on the track, and no other",
                oneEvent(), "pick 0 1 5 1 1", "overwrite 1 1 10", "overwrite 1 2 10", "pick 0 9 2 1 1",
                "overwrite 1 1 12 = true", "track 1 0 = 0.1.0.10.5", "track 1 1 = 0.1.0.10.2 0.9.0.12.2 0.1.4.14.1",
                "track 1 2 = 0.1.0.10.5");
    }

    private static void promise7Frames() {
        sentences.holds("7: there is no such frame",
                "clip 20", "sequence", "pick 0 0 1 1 1",
                Sentences.refused("overwrite 1 0 ?", "false", -1, -2, 200, 201, "MAX", "MIN"),
                "overwrite 1 0 0 = true", "overwrite 1 0 199 = true", "track 1 0 = 0.0.0.0.1 0.0.0.199.1",
                Sentences.refused("overwrite 1 0 ?", "false", -1, 200));
    }

    private static void promise7WithinTheFrames() {
        sentences.holds("7: within frames 0 .. 199",
                oneEvent(), "! overwrite 1 0 199 = false", "overwrite 1 0 198 = true",
                "track 1 0 = 0.1.0.10.5 0.9.0.198.2", "! overwrite 1 0 199 = false");
        sentences.holds("7: 200 frames",
                "sequence", "sequence", "pick 0 0 200 1 1", "! overwrite 1 0 1 = false", "overwrite 1 0 0 = true",
                "overwrite 1 0 0 = true", "track 1 0 = 0.0.0.0.200");
    }

    private static void promise7Thirty() {
        sentences.holds("7: a track would have more than 30 events",
                rowOf(29, 1), "overwrite 1 1 116 = true", "event 1 1 NONE 0 = 30", "! overwrite 1 1 120 = false",
                "overwrite 1 1 116 = true", "event 1 1 NONE 0 = 30");
        sentences.holds("7: within an event there are two more",
                rowOf(28, 1), "pick 0 0 2 1 1", "overwrite 1 1 1 = true", "event 1 1 NONE 0 = 30", "undo",
                "overwrite 1 1 112 = true", "! overwrite 1 1 1 = false", "overwrite 1 1 0 = true",
                "event 1 1 NONE 0 = 30", "! overwrite 1 1 4 = false", "! overwrite 1 1 6 = false",
                "! overwrite 1 1 7 = false");
        sentences.holds("7: what is gone does not count",
                rowOf(30, 1), "! overwrite 1 1 2 = false", "pick 0 0 8 1 1", "overwrite 1 1 2 = true",
                "event 1 1 NONE 0 = 30", "pick 0 0 4 1 1", "overwrite 1 1 12 = true", "event 1 1 NONE 0 = 30");
        sentences.holds("7: other tracks may be full",
                rowOf(30, 1), "overwrite 1 0 2 = true", "overwrite 1 2 2 = true", "event 1 1 NONE 0 = 30");
    }

    private static void promise7NothingIsPicked() {
        sentences.holds("7: false also if nothing is picked",
                "sequence", "sequence", Sentences.refused("overwrite 0 ? 0", "false", 0, 1, 2), "pick 1 0 1 1 1",
                "overwrite 0 0 0 = true");
    }
}
