import java.util.List;

/** The edges of what the terms say of all edits, and of sequences that use others; one test for each sentence. */
public final class EditsEdgesTest {
    private static final Sentences sentences = new Sentences();

    /** One good call of each edit; S stands for the sequence, T for the track. */
    private static final String[] EDITS = {
        "insert S T 15", "overwrite S T 15", "lift S T 15 16", "blade S T 15", "trim S T 14 0 1", "trim S T 18 1 1",
        "trim S T 14 2 1", "trim S T 14 3 1", "trim S T 14 4 1", "cross S T 14 1 2", "style S T 14 1 100"};

    /** The edits of the event that covers a frame; A stands for it. */
    private static final String[] EDITS_OF_AN_EVENT = {
        "blade 1 1 A", "trim 1 1 A 0 1", "trim 1 1 A 1 -1", "trim 1 1 A 2 1", "trim 1 1 A 3 1", "trim 1 1 A 4 1",
        "cross 1 1 A 1 1", "style 1 1 A 1 100"};

    public static void main(String[] args) {
        noSuchSequence();
        noSuchTrack();
        noSuchEvent();
        allOfAnEventsFrames();
        eachIsOneEdit();
        emptySequence();
        fullSequence();
        sequenceOfTwoHundredFrames();
        fullRoom();
        usedByItself();
        usedByItselfThroughOthers();
        depthOfFour();
        depthOfOneThatUsesIt();
        usesEndWithTheLastEvent();
        sentences.end();
    }

    /** Clip 0; sequence 1 with events at 10 .. 13, 14 .. 17 and 18 .. 21 on each track; sequence 2; a pick. */
    private static List<Object> room() {
        return List.of("clip 20", "sequence", "sequence", "pick 0 2 4 1 1",
                Sentences.times(9, i -> "overwrite 1 " + i / 3 + " " + (10 + i % 3 * 4)));
    }

    private static void noSuchSequence() {
        for (String edit : EDITS) {
            sentences.holds("EDITS: no such sequence (a clip is none): " + edit,
                    room(), Sentences.refused(edit.replace("S", "?").replace("T", "0"), "false",
                            -1, 0, 3, 4, 15, 16, "MAX", "MIN"),
                    edit.replace("S", "1").replace("T", "0") + " = true");
        }
        sentences.holds("EDITS: no such sequence (a clip is none): extract",
                room(), Sentences.refused("extract ? 15 16", "false", -1, 0, 3, 4, 15, 16, "MAX", "MIN"),
                "! extract 2 15 16 = false", "extract 1 15 16 = true");
    }

    private static void noSuchTrack() {
        for (String edit : EDITS) {
            sentences.holds("EDITS: no such track: " + edit,
                    room(), Sentences.refused(edit.replace("T", "?").replace("S", "1"), "false",
                            -1, -2, 3, 4, "MAX", "MIN"),
                    Sentences.times(3, t -> edit.replace("S", "1").replace("T", "" + t) + " = true"));
        }
    }

    private static void noSuchEvent() {
        for (String edit : EDITS_OF_AN_EVENT) {
            sentences.holds("EDITS: no such event or frame: " + edit,
                    room(), Sentences.refused(edit.replace("A", "?"), "false",
                            9, 22, 0, -1, 199, 200, 201, "MAX", "MIN"),
                    "lift 1 1 0 200", Sentences.refused(edit.replace("A", "?"), "false", 10, 15, 21),
                    "! lift 1 1 0 200 = false");
        }
    }

    private static void allOfAnEventsFrames() {
        for (int frame : new int[] {14, 15, 16, 17}) {
            sentences.holds("Terms: it covers the frames from START on, LENGTH in all: " + frame,
                    room(), "style 1 1 " + frame + " 3 30 = true", "event 1 1 0 8 = 256", "event 1 1 1 8 = 30",
                    "event 1 1 2 8 = 256", "cross 1 1 " + frame + " 2 4 = true", "event 1 1 0 9 = 0",
                    "event 1 1 1 9 = 2", "event 1 1 2 9 = 0", "trim 1 1 " + frame + " 3 5 = true",
                    "event 1 1 0 1 = 2", "event 1 1 1 1 = 7", "event 1 1 2 1 = 2",
                    "event 1 0 1 8 = 256", "event 1 2 1 8 = 256");
        }
    }

    private static void eachIsOneEdit() {
        for (String edit : EDITS) {
            sentences.holds("EDITS answer true: " + edit,
                    room(), "count 1 = 9", edit.replace("S", "1").replace("T", "1") + " = true", "count 1 = 10",
                    "undo = true", "count 1 = 9", "count 2 = 1",
                    "track 1 0 = 0.2.0.10.4 0.2.0.14.4 0.2.0.18.4", "track 1 1 = 0.2.0.10.4 0.2.0.14.4 0.2.0.18.4",
                    "track 1 2 = 0.2.0.10.4 0.2.0.14.4 0.2.0.18.4", "looks 1 1 1 = 1.1.0.256.0.0");
        }
    }

    private static void emptySequence() {
        sentences.holds("EDITS: an empty sequence has no event to be edited",
                "clip 20", "sequence", "pick 0 0 4 1 1", "! lift 1 0 0 200 = false", "! extract 1 0 200 = false",
                "! blade 1 0 1 = false", Sentences.refused("trim 1 0 0 ? 1", "false", 0, 1, 2, 3, 4),
                "! cross 1 0 0 1 0 = false", "! style 1 0 0 1 1 = false", "count 1 = 0", "insert 1 0 0 = true", "undo",
                "overwrite 1 0 0 = true");
    }

    /** All tracks of sequence 1 have 30 events, of six frames each but for the last one, which goes on to 199. */
    private static List<Object> full() {
        return List.of("clip 20", "sequence", "pick 0 0 6 1 2",
                Sentences.times(90, i -> "overwrite 1 " + i / 30 + " " + i % 30 * 6 + " = true"),
                Sentences.times(3, t -> "trim 1 " + t + " 179 1 20 = true"));
    }

    private static void fullSequence() {
        sentences.holds("EDITS: a full sequence: what would be the 31st event or behind frame 199",
                full(), "about 1 1 = 200", "event 1 0 NONE 0 = 30",
                Sentences.refused("insert 1 1 ?", "false", 0, 3, 6, 199),
                Sentences.refused("overwrite 1 1 ?", "false", 3, 185, 194, 195), "! lift 1 2 1 2 = false",
                "! extract 1 1 2 = false", "! blade 1 0 199 = false", "! trim 1 0 199 1 1 = false",
                "! trim 1 0 0 0 -1 = false", "! trim 1 0 0 1 1 = false", "count 1 = 40");
        sentences.holds("EDITS: a full sequence: what leaves it within its limits",
                full(), "overwrite 1 1 6 = true", "trim 1 0 6 2 2 = true", "trim 1 0 8 3 1 = true",
                "trim 1 0 8 4 -1 = true", "cross 1 0 199 2 26 = true", "style 1 2 199 4 0 = true",
                "lift 1 2 0 3 = true", Sentences.times(3, t -> "event 1 " + t + " NONE 0 = 30"),
                "extract 1 0 6 = true", "about 1 1 = 194", Sentences.times(3, t -> "event 1 " + t + " NONE 0 = 29"),
                "insert 1 0 0 = true", "about 1 1 = 200", "event 1 0 NONE 0 = 30", "! insert 1 1 0 = false");
    }

    private static void sequenceOfTwoHundredFrames() {
        sentences.holds("EDITS: an event of 200 frames on each track",
                "sequence", "sequence", "pick 0 500 200 1 1",
                Sentences.times(3, t -> "overwrite 1 " + t + " 0 = true"),
                Sentences.refused("trim 1 1 0 0 ?", "false", -1, 200),
                Sentences.refused("trim 1 1 0 1 ?", "false", 1, -200),
                "pick 0 0 1 1 1", Sentences.refused("insert 1 2 ?", "false", 0, 1, 199), "blade 1 0 199 = true",
                "! insert 1 0 199 = false", "extract 1 199 200 = true", "track 1 0 = 0.500.0.0.199",
                "insert 1 0 199 = true", "track 1 0 = 0.500.0.0.199 0.0.0.199.1", "track 1 2 = 0.500.0.0.199");
    }

    private static void fullRoom() {
        sentences.holds("EDITS: the last sequence of a full room",
                Sentences.times(16, i -> i < 14 ? "clip 4" : "sequence"), "pick 13 0 4 1 1", "! insert 16 0 0 = false",
                "! insert 13 0 0 = false", "insert 15 0 0 = true", "pick 15 0 4 1 1", "! overwrite 15 1 0 = false",
                "overwrite 14 1 0 = true", "about 14 2 = 1", "pick 14 0 4 1 1", "! overwrite 15 1 0 = false",
                "blade 15 0 2 = true", "trim 15 0 0 2 1 = true", "extract 15 0 1 = true", "lift 15 0 0 1 = true",
                "undo", "undo", "track 15 0 = 13.0.0.0.3 13.0.3.3.1");
    }

    /** So many sequences, numbered from 0 on, each from 1 on with an event of the one ahead of it. */
    private static List<Object> chain(int sequences) {
        return List.of(Sentences.times(sequences, i -> "sequence"),
                Sentences.times(2 * (sequences - 1), i -> i % 2 == 0
                        ? "pick " + i / 2 + " 0 5 1 1" : "insert " + (i / 2 + 1) + " 0 0 = true"));
    }

    private static void usedByItself() {
        sentences.holds("Terms: refused by which a sequence would be used by itself",
                "sequence", "sequence", "pick 0 0 1 1 1",
                Sentences.refused("insert 0 ? 0", "false", 0, 1, 2),
                Sentences.refused("overwrite 0 ? 0", "false", 0, 1, 2),
                "insert 1 0 0 = true", "overwrite 1 1 0 = true");
    }

    private static void usedByItselfThroughOthers() {
        for (int length = 2; length <= 5; length++) {
            int last = length - 1;
            sentences.holds("Terms: used by itself through " + last + " others",
                    chain(length), "pick " + last + " 0 5 1 1", Sentences.refused("overwrite ? 2 50", "false", 0, last),
                    Sentences.refused("insert ? 2 50", "false", 0, last),
                    // The first event of the last one is undone: there is no circle any more.
                    "undo", "overwrite 0 2 50 = true", "about 0 2 = 1");
        }
        sentences.holds("Terms: used by itself, by an edit of one in the middle",
                chain(4), "pick 3 0 5 1 1", Sentences.refused("overwrite ? 0 0", "false", 1, 2),
                "pick 2 0 5 1 1", "! overwrite 1 0 0 = false", "pick 1 0 5 1 1", "overwrite 3 1 0 = true",
                "about 3 2 = 3", "about 1 3 = 2");
    }

    private static void depthOfFour() {
        sentences.holds("Terms: a depth of more than 4",
                chain(5), Sentences.times(5, s -> "about " + s + " 2 = " + s), "sequence = 5",
                "pick 4 0 5 1 1", "! insert 5 0 0 = false", "! overwrite 5 0 0 = false",
                "pick 3 0 5 1 1", "overwrite 5 0 0 = true", "about 5 2 = 4",
                "clip 1 = 6", "pick 6 0 1 1 1", "overwrite 0 0 0 = true", "about 5 2 = 4", "about 4 2 = 4",
                "sequence = 7", "pick 5 0 1 1 1", "! overwrite 7 0 0 = false");
    }

    private static void depthOfOneThatUsesIt() {
        sentences.holds("Terms: one that uses it would have a depth of more than 4",
                chain(5), "sequence = 5", "pick 5 0 5 1 1", "! overwrite 0 0 0 = false", "! insert 0 2 0 = false",
                Sentences.times(3, s -> "overwrite " + (s + 2) + " 1 0 = true"), "about 4 2 = 4",
                "sequence = 6", "pick 6 0 5 1 1", "overwrite 5 0 0 = true", "about 4 2 = 4", "about 2 2 = 2",
                "pick 5 0 5 1 1", "! overwrite 1 1 0 = false");
        sentences.holds("Terms: the depth of one that uses it, two chains of 2 and 3 make one of 5 and no more",
                chain(3), Sentences.times(4, i -> "sequence = " + (i + 3)),
                "pick 3 0 5 1 1", "overwrite 4 0 0", "pick 4 0 5 1 1", "overwrite 5 0 0", "about 5 2 = 2",
                "pick 5 0 5 1 1", "! overwrite 0 0 0 = false", "pick 4 0 5 1 1", "overwrite 0 0 0 = true",
                "about 2 2 = 4", "pick 6 0 5 1 1", "! overwrite 3 0 0 = false", "undo", "overwrite 3 0 0 = true");
    }

    private static void usesEndWithTheLastEvent() {
        sentences.holds("Terms: used as long as there is an event of it",
                "sequence", "sequence", "pick 0 0 5 1 1", "overwrite 1 0 0", "overwrite 1 2 0",
                "pick 1 0 5 1 1", "! overwrite 0 0 0 = false", "lift 1 0 0 200 = true", "! overwrite 0 0 0 = false",
                "lift 1 2 0 4 = true", "! overwrite 0 0 0 = false", "lift 1 2 4 5 = true",
                "about 0 3 = 0", "about 1 2 = 0", "overwrite 0 0 0 = true", "about 1 3 = 1", "about 0 2 = 1");
    }
}
