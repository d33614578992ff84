import java.util.List;

/** The edges of promises 17 and 18, event and about; one test for each sentence. */
public final class FactsEdgesTest {
    private static final String INDEX = "IndexOutOfBoundsException";

    private static final Sentences sentences = new Sentences();

    public static void main(String[] args) {
        promise17ByStarts();
        promise17HowMany();
        promise17NoSuchSequence();
        promise17NoSuchTrack();
        promise17NoSuchEvent();
        promise17NoSuchWhat();
        promise17FullTrack();
        promise18NoSuchSource();
        promise18NoSuchWhat();
        promise18Kind();
        promise18Frames();
        promise18Depth();
        promise18Users();
        promise18MostUsers();
        sentences.end();
    }

    /** Clip 0 with 20 pictures; sequence 1 with events at 30 .. 32 and 50 .. 52 on track 1, none on the others. */
    private static List<String> room() {
        return List.of("clip 20", "sequence", "pick 0 4 3 5 6", "overwrite 1 1 50", "pick 0 7 3 2 3",
                "overwrite 1 1 30");
    }

    private static void promise17ByStarts() {
        sentences.holds("17: the i-th event (from 0 on, by starts)",
                room(), "track 1 1 = 0.7.0.30.3 0.4.0.50.3", "looks 1 1 0 = 2.3.0.256.0.0",
                "looks 1 1 1 = 5.6.0.256.0.0", "overwrite 1 1 0", "overwrite 1 1 197", "overwrite 1 1 33",
                "track 1 1 = 0.7.0.0.3 0.7.0.30.3 0.7.0.33.3 0.4.0.50.3 0.7.0.197.3");
    }

    private static void promise17HowMany() {
        sentences.holds("17: for i = NONE, what 0: how many events there are",
                room(), "event 1 0 NONE 0 = 0", "event 1 1 NONE 0 = 2", "event 1 2 NONE 0 = 0", "blade 1 1 31",
                "event 1 1 NONE 0 = 3", "lift 1 1 0 200", "event 1 1 NONE 0 = 0");
        sentences.holds("17: for i = NONE there is no other what",
                room(), Sentences.refused("event 1 1 NONE ?", INDEX, -1, 1, 2, 9, 10, 11, "MAX", "MIN"));
    }

    private static void promise17NoSuchSequence() {
        sentences.holds("17: no such sequence (a clip is none)",
                room(), Sentences.refused("event ? 1 0 0", INDEX, -1, 0, 2, 3, 15, 16, "MAX", "MIN"),
                Sentences.refused("event ? 1 NONE 0", INDEX, -1, 0, 2, 3, 15, 16, "MAX", "MIN"),
                "event 1 1 0 0 = 0", "sequence = 2", "event 2 1 NONE 0 = 0", "! event 2 1 0 0 = " + INDEX);
        sentences.holds("17: the last source of a full room",
                Sentences.times(16, i -> "sequence"), "event 15 2 NONE 0 = 0", "! event 16 2 NONE 0 = " + INDEX);
    }

    private static void promise17NoSuchTrack() {
        sentences.holds("17: no such track",
                room(), Sentences.refused("event 1 ? 0 0", INDEX, -1, -2, 3, 4, "MAX", "MIN"),
                Sentences.refused("event 1 ? NONE 0", INDEX, -1, -2, 3, 4, "MAX", "MIN"),
                "event 1 0 NONE 0 = 0", "event 1 2 NONE 0 = 0");
    }

    private static void promise17NoSuchEvent() {
        sentences.holds("17: no such event",
                room(), Sentences.refused("event 1 1 ? 0", INDEX, -2, 2, 3, 30, "MAX", "MIN"),
                Sentences.refused("event 1 0 ? 0", INDEX, 0, 1, -2), "event 1 1 0 3 = 30", "event 1 1 1 3 = 50",
                "lift 1 1 50 53", "! event 1 1 1 3 = " + INDEX, "lift 1 1 30 33", "! event 1 1 0 3 = " + INDEX);
    }

    private static void promise17NoSuchWhat() {
        int[] due = {0, 4, 1, 51, 2, 5, 6, 4, 0, 2, 2};
        sentences.holds("17: what 0 .. 10",
                room(), "trim 1 1 50 0 1", "style 1 1 51 4 0", "cross 1 1 51 2 2",
                Sentences.refused("event 1 1 1 ?", INDEX, -1, -2, 11, 12, "MAX", "MIN"),
                Sentences.times(11, what -> "event 1 1 1 " + what + " = " + due[what]));
    }

    private static void promise17FullTrack() {
        sentences.holds("17: the last of 30 events",
                "clip 20", "sequence", "pick 0 0 1 1 1", Sentences.times(30, i -> "overwrite 1 2 " + (199 - 5 * i)),
                "event 1 2 NONE 0 = 30", "event 1 2 0 3 = 54", "event 1 2 29 3 = 199", "! event 1 2 30 3 = " + INDEX);
    }

    private static void promise18NoSuchSource() {
        for (int what = 0; what <= 3; what++) {
            sentences.holds("18: no such source, what " + what,
                    room(), Sentences.refused("about ? " + what, INDEX, -1, -2, 2, 3, 15, 16, "MAX", "MIN"),
                    "about 0 " + what, "about 1 " + what);
        }
        sentences.holds("18: the last source of a full room",
                Sentences.times(16, i -> i == 15 ? "clip 9" : "sequence"), "about 15 1 = 9", "! about 16 1 = " + INDEX);
    }

    private static void promise18NoSuchWhat() {
        sentences.holds("18: no such what",
                room(), Sentences.refused("about 0 ?", INDEX, -1, -2, 4, 5, "MAX", "MIN"),
                Sentences.refused("about 1 ?", INDEX, -1, -2, 4, 5, "MAX", "MIN"));
    }

    private static void promise18Kind() {
        sentences.holds("18, what 0: 0 for a clip, 1 for a sequence",
                room(), "about 0 0 = 0", "about 1 0 = 1", "clip 1 = 2", "sequence = 3", "about 2 0 = 0",
                "about 3 0 = 1");
    }

    private static void promise18Frames() {
        sentences.holds("18, what 1: a clip's pictures", "clip 1", "clip 40", "about 0 1 = 1", "about 1 1 = 40");
        sentences.holds("18, what 1: a sequence's frames up to the end of its last event",
                "clip 20", "sequence", "about 1 1 = 0", "pick 0 0 1 1 1", "overwrite 1 0 0", "about 1 1 = 1",
                "overwrite 1 1 198", "about 1 1 = 199", "overwrite 1 2 199", "about 1 1 = 200", "overwrite 1 0 100",
                "about 1 1 = 200", "lift 1 2 199 200", "about 1 1 = 199", "lift 1 1 198 199", "about 1 1 = 101",
                "lift 1 0 100 101", "about 1 1 = 1", "lift 1 0 0 1", "about 1 1 = 0");
        sentences.holds("18, what 1: the longest event need not be the last",
                "clip 20", "sequence", "pick 0 0 20 1 1", "overwrite 1 0 0", "pick 0 0 1 1 1", "overwrite 1 1 5",
                "about 1 1 = 20", "overwrite 1 1 20", "about 1 1 = 21");
    }

    private static void promise18Depth() {
        sentences.holds("18, what 2: its depth",
                "clip 1", Sentences.times(6, i -> "sequence"), "about 0 2 = 0", "about 1 2 = 0",
                "pick 0 0 1 1 1", "overwrite 1 0 0", "about 1 2 = 0",
                "pick 1 0 1 1 1", "overwrite 2 2 0", "about 2 2 = 1", "pick 2 0 1 1 1", "overwrite 3 2 0",
                "about 3 2 = 2", "pick 3 0 1 1 1", "overwrite 4 2 0", "about 4 2 = 3", "pick 4 0 1 1 1",
                "overwrite 5 2 0", "about 5 2 = 4",
                "about 0 2 = 0", "about 1 2 = 0", "lift 2 2 0 1", "about 5 2 = 3", "undo", "about 5 2 = 4");
        sentences.holds("18, what 2: 1 more than the greatest",
                Sentences.times(4, i -> "sequence"), "pick 0 0 1 1 1", "overwrite 1 0 0", "overwrite 3 0 0",
                "about 3 2 = 1", "pick 1 0 1 1 1", "overwrite 3 0 5", "about 3 2 = 2", "pick 2 0 1 1 1",
                "overwrite 3 2 0", "about 3 2 = 2", "lift 3 0 5 6", "about 3 2 = 1");
    }

    private static void promise18Users() {
        sentences.holds("18, what 3: how many sequences use it, by others or not",
                "clip 1", Sentences.times(6, i -> "sequence"), "about 0 3 = 0", "pick 0 0 1 1 1", "overwrite 1 0 0",
                "overwrite 1 1 0", "overwrite 1 0 9", "about 0 3 = 1", "pick 1 0 1 1 1", "overwrite 2 0 0",
                "about 0 3 = 2", "about 1 3 = 1", "overwrite 3 0 0", "about 0 3 = 3", "about 1 3 = 2",
                "pick 2 0 1 1 1", "overwrite 3 1 0", "about 0 3 = 3", "about 1 3 = 2", "about 2 3 = 1", "about 3 3 = 0",
                "lift 1 0 0 200", "about 0 3 = 3", "lift 1 1 0 200", "about 0 3 = 0", "about 1 3 = 2");
    }

    private static void promise18MostUsers() {
        sentences.holds("18, what 3: all 15 others use it",
                "clip 1", Sentences.times(15, i -> "sequence"), "pick 0 0 1 1 1",
                Sentences.times(15, i -> "overwrite " + (i + 1) + " 0 0"), "about 0 3 = 15", "about 15 3 = 0");
        sentences.holds("18, what 3: all 15 others use it, by a chain of five and by ten more",
                Sentences.times(15, i -> "sequence"), "clip 1 = 15", "pick 15 0 1 1 1", "overwrite 14 0 0",
                Sentences.times(8, i -> i % 2 == 0 ? "pick " + (14 - i / 2) + " 0 1 1 1"
                        : "overwrite " + (13 - i / 2) + " 0 0 = true"),
                "about 10 2 = 4", "about 15 3 = 5", "pick 11 0 1 1 1",
                Sentences.times(10, i -> "overwrite " + i + " 0 0 = true"), "about 15 3 = 15", "about 14 3 = 14",
                "about 11 3 = 11", "about 10 3 = 0");
    }
}
