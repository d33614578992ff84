import java.util.ArrayList;
import java.util.List;

/** The edges of promise 16, pixel, and of what the terms say of colours; one test for each sentence. */
public final class PictureEdgesTest {
    private static final String INDEX = "IndexOutOfBoundsException";

    private static final Sentences sentences = new Sentences();

    public static void main(String[] args) {
        noSuchSource();
        noSuchPixel();
        anyFrameOfAClip();
        anyFrameOfASequence();
        coveredFrames();
        shownFramesRoundedDown();
        tracksInTheirOrder();
        allBlendsOfAllPairs();
        allLevels();
        levelsRoundedDown();
        crossingsFrames();
        crossingsKinds();
        crossingsNeedOneJustAhead();
        crossingsFromBehindItsEnd();
        crossingsBySourceAlone();
        crossingsWeights();
        crossingsOfAllKindsOfWipes();
        behindTheFramesOfASequence();
        deepest();
        sentences.end();
    }

    private static String painted(int clip, int picture, int colour) {
        return "paint " + clip + " " + picture + " 0 15 " + colour + " = true";
    }

    private static String seen(int source, int frame, int pixel, int colour) {
        return "pixel " + source + " " + frame + " " + pixel + " = " + colour;
    }

    /** Clips 0 and 1 of 20 pictures, whose colours are 100 and on and 200 and on; sequence 2. */
    private static List<Object> room() {
        return List.of("clip 20", "clip 20", "sequence", Sentences.times(20, i -> painted(0, i, 100 + i)),
                Sentences.times(20, i -> painted(1, i, 200 + i)));
    }

    private static void noSuchSource() {
        sentences.holds("16: no such source",
                room(), Sentences.refused("pixel ? 0 0", INDEX, -1, -2, 3, 4, 15, 16, "MAX", "MIN"), seen(0, 0, 0, 100),
                seen(2, 0, 0, 0), "sequence = 3", seen(3, 0, 0, 0), "! pixel 4 0 0 = " + INDEX);
        sentences.holds("16: the last source of a full room",
                Sentences.times(16, i -> "clip 1"), painted(15, 0, 5), seen(15, 0, 0, 5), "! pixel 16 0 0 = " + INDEX);
    }

    private static void noSuchPixel() {
        sentences.holds("16: no such pixel",
                room(), Sentences.refused("pixel 0 0 ?", INDEX, -1, -2, 16, 17, "MAX", "MIN"),
                Sentences.refused("pixel 2 0 ?", INDEX, -1, -2, 16, 17, "MAX", "MIN"),
                "! pixel 0 MAX 16 = " + INDEX, "! pixel 2 MIN -1 = " + INDEX, "paint 0 0 0 0 1", "paint 0 0 15 15 2",
                seen(0, 0, 0, 1), seen(0, 0, 1, 100), seen(0, 0, 14, 100), seen(0, 0, 15, 2), "pick 0 0 1 1 1",
                "overwrite 2 0 0", seen(2, 0, 0, 1), seen(2, 0, 14, 100), seen(2, 0, 15, 2));
    }

    private static void anyFrameOfAClip() {
        sentences.holds("THE COLOUR of a clip: below 0 of the first one, behind the last one of the last one",
                room(), "pixel 0 MIN 3 = 100", "pixel 0 -1 3 = 100", "pixel 0 0 3 = 100", "pixel 0 1 3 = 101",
                "pixel 0 18 3 = 118", "pixel 0 19 3 = 119", "pixel 0 20 3 = 119", "pixel 0 200 3 = 119",
                "pixel 0 MAX 3 = 119");
        sentences.holds("THE COLOUR of a clip of one picture",
                "clip 1", painted(0, 0, 7), "pixel 0 MIN 0 = 7", "pixel 0 -1 0 = 7", "pixel 0 0 0 = 7",
                "pixel 0 1 0 = 7", "pixel 0 MAX 15 = 7");
    }

    private static void anyFrameOfASequence() {
        sentences.holds("THE COLOUR of a sequence: black where there is no event",
                room(), "pixel 2 MIN 0 = 0", "pixel 2 -1 0 = 0", "pixel 2 0 0 = 0", "pixel 2 199 0 = 0",
                "pixel 2 200 0 = 0", "pixel 2 MAX 0 = 0", "pick 0 3 1 1 1", "overwrite 2 1 0", "overwrite 2 1 199",
                "pixel 2 MIN 0 = 0", "pixel 2 -1 0 = 0", "pixel 2 0 0 = 103", "pixel 2 1 0 = 0", "pixel 2 198 0 = 0",
                "pixel 2 199 0 = 103", "pixel 2 200 0 = 0", "pixel 2 MAX 0 = 0");
    }

    private static void coveredFrames() {
        for (int track = 0; track < 3; track++) {
            sentences.holds("Terms: it covers the frames from START on, LENGTH in all, track " + track,
                    room(), "pick 0 5 3 1 1", "overwrite 2 " + track + " 50", seen(2, 49, 0, 0), seen(2, 50, 0, 105),
                    seen(2, 51, 0, 106), seen(2, 52, 0, 107), seen(2, 53, 0, 0));
        }
    }

    private static void shownFramesRoundedDown() {
        int[] byThreeHalves = {0, 2, 3, 5, 6, 8, 9, 11};
        sentences.holds("Terms: ENTRY + (SKIP + k) num / den, rounded down, below ENTRY too",
                room(), "pick 0 5 5 3 2", "overwrite 2 0 50", "trim 2 0 50 0 -3 = true", "event 2 0 0 2 = -3",
                Sentences.times(8, k -> seen(2, 47 + k, 0, 100 + byThreeHalves[k])));
        int[] byTwoThirds = {0, 0, 1, 2, 2, 3, 4};
        sentences.holds("Terms: rounded down, slower than it was",
                room(), "pick 0 2 4 2 3", "overwrite 2 0 50", "trim 2 0 50 0 -3 = true",
                Sentences.times(7, k -> seen(2, 47 + k, 0, 100 + byTwoThirds[k])));
        sentences.holds("Terms: the fastest and the slowest",
                room(), "pick 0 3 3 8 1", "overwrite 2 0 0", seen(2, 0, 0, 103), seen(2, 1, 0, 111),
                seen(2, 2, 0, 119), "pick 0 0 160 1 8", "overwrite 2 1 10", seen(2, 17, 0, 100), seen(2, 18, 0, 101),
                seen(2, 161, 0, 118), seen(2, 162, 0, 119), seen(2, 169, 0, 119));
    }

    private static void tracksInTheirOrder() {
        sentences.holds("THE COLOUR of a sequence: for each track 0, 1, 2",
                room(), "pick 0 1 4 1 1", "overwrite 2 2 10", "pick 1 1 4 1 1", "overwrite 2 1 9", "pick 0 10 4 1 1",
                "overwrite 2 0 8", seen(2, 7, 0, 0), seen(2, 8, 0, 110), seen(2, 9, 0, 201), seen(2, 10, 0, 101),
                seen(2, 13, 0, 104), seen(2, 14, 0, 0), "style 2 2 10 0 0", seen(2, 10, 0, 202), "style 2 1 10 0 0",
                seen(2, 10, 0, 112), seen(2, 12, 0, 0));
    }

    /** Five pictures of 16 pixels with three pairs each are looked at in one room. */
    private static void allBlendsOfAllPairs() {
        int pairsAtOnce = 5 * 16 * 3;
        for (int first = 0; first < 65536; first += pairsAtOnce) {
            List<String> rows = new ArrayList<>(List.of("clip 5", "clip 5", "sequence"));
            for (int n = 0; n < 80; n++) {
                int pair = first + 3 * n;
                String place = n / 16 + " " + n % 16 + " " + n % 16 + " ";
                rows.add("paint 0 " + place + colour(pair, 0) + " = true");
                rows.add("paint 1 " + place + colour(pair, 1) + " = true");
            }
            rows.addAll(List.of("pick 0 0 5 1 1", "overwrite 2 0 0", "pick 1 0 5 1 1", "overwrite 2 1 0"));
            for (int n = 0; n < 4 * 80; n++) {
                int blend = 1 + n / 80;
                if (n % 80 == 0) {
                    rows.add("style 2 1 0 " + blend + " 256 = true");
                }
                rows.add(seen(2, n % 80 / 16, n % 16, blended(blend, first + 3 * (n % 80))));
            }
            sentences.holds("THE COLOUR: the blends of pairs from " + first + " on", rows);
        }
    }

    /** Of three pairs, the one half or the other: pair 256 b + t, the rest black. */
    private static int colour(int pair, int half) {
        int colour = 0;
        for (int c = 0; c < 3; c++) {
            int now = Math.min(pair + c, 65535);
            colour = 256 * colour + (half == 0 ? now / 256 : now % 256);
        }
        return colour;
    }

    private static int blended(int blend, int pair) {
        int colour = 0;
        for (int c = 0; c < 3; c++) {
            int now = Math.min(pair + c, 65535);
            colour = 256 * colour + blended(blend, now / 256, now % 256);
        }
        return colour;
    }

    private static int blended(int blend, int b, int t) {
        switch (blend) {
            case 1: return b + t > 255 ? 255 : b + t;
            case 2: return nearest(b * t);
            case 3: return 255 - nearest((255 - b) * (255 - t));
            default: return b > t ? b - t : t - b;
        }
    }

    /** The whole number that is nearest to a 255th of a number. */
    private static int nearest(int number) {
        int below = number / 255;
        return number - 255 * below < 255 * (below + 1) - number ? below : below + 1;
    }

    private static void allLevels() {
        for (int[] levels : new int[][] {{0, 129}, {129, 257}}) {
            sentences.holds("THE COLOUR: levels " + levels[0] + " and on",
                    "clip 1", "clip 1", "sequence", painted(0, 0, 0xFF0064), painted(1, 0, 0x00FFC8),
                    "pick 0 0 1 1 1", "overwrite 2 0 0", "pick 1 0 1 1 1", "overwrite 2 2 0",
                    Sentences.times(2 * (levels[1] - levels[0]), i -> i % 2 == 0
                            ? "style 2 2 0 0 " + (levels[0] + i / 2) + " = true"
                            : seen(2, 0, 9, mixed(levels[0] + i / 2))));
        }
    }

    private static void levelsRoundedDown() {
        sentences.holds("THE COLOUR: (b (256 - LEVEL) + x LEVEL + 128) / 256, rounded down",
                "clip 1", "sequence", painted(0, 0, 0x7F80FF), "pick 0 0 1 1 1", "overwrite 1 0 0", "style 1 0 0 0 1",
                // 127 + 128 is below 256, 128 + 128 is 256, 255 + 128 is above.
                seen(1, 0, 0, 0x000101), "style 1 0 0 0 0", seen(1, 0, 0, 0), "style 1 0 0 0 255",
                seen(1, 0, 0, 0x7F80FE), "style 1 0 0 0 256", seen(1, 0, 0, 0x7F80FF));
        sentences.holds("THE COLOUR: the level is of what the blend makes",
                "clip 2", "sequence", painted(0, 0, 200), painted(0, 1, 100), "pick 0 0 1 1 1", "overwrite 1 0 0",
                "pick 0 1 1 1 1", "overwrite 1 1 0", "style 1 1 0 1 128", seen(1, 0, 0, 228), "style 1 1 0 4 128",
                seen(1, 0, 0, 150), "style 1 1 0 4 0", seen(1, 0, 0, 200), "style 1 0 0 0 0", "style 1 1 0 3 256",
                seen(1, 0, 0, 100), "style 1 1 0 2 256", seen(1, 0, 0, 0));
    }

    /** In the room above, pictures 0 .. 4 of clip 0 at 10 .. 14 and pictures 0 .. 4 of clip 1 at 15 .. 19. */
    private static List<Object> joined() {
        return List.of(room(), "pick 0 0 5 1 1", "overwrite 2 0 10", "pick 1 0 5 1 1", "overwrite 2 0 15");
    }

    private static void crossingsFrames() {
        for (int frames = 0; frames <= 5; frames++) {
            int crossed = frames;
            sentences.holds("A CROSSING: k is less than T, " + frames,
                    joined(), "cross 2 0 15 2 " + frames, seen(2, 14, 15, 104),
                    Sentences.times(5, k -> seen(2, 15 + k, 15, k < crossed ? 105 + k : 200 + k)),
                    Sentences.times(5, k -> seen(2, 15 + k, 0, 200 + k)), seen(2, 20, 15, 0));
        }
        sentences.holds("A CROSSING: more frames than are left of it",
                joined(), "cross 2 0 15 2 5", "trim 2 0 15 1 -3", seen(2, 15, 3, 105), seen(2, 16, 5, 201),
                seen(2, 16, 6, 106), seen(2, 17, 15, 0));
    }

    private static void crossingsKinds() {
        sentences.holds("A CROSSING of kind 1 or 2",
                joined(), "cross 2 0 15 0 5 = true", Sentences.times(5, k -> seen(2, 15 + k, 15, 200 + k)),
                "cross 2 0 15 1 1 = true", seen(2, 15, 15, (105 * 128 + 200 * 128 + 128) / 256), seen(2, 16, 15, 201),
                "cross 2 0 15 2 1 = true", seen(2, 15, 7, 200), seen(2, 15, 8, 105), seen(2, 16, 15, 201));
    }

    private static void crossingsNeedOneJustAhead() {
        sentences.holds("A CROSSING: another event on the track ends just ahead of its START",
                joined(), "cross 2 0 15 2 5", seen(2, 15, 15, 105), "trim 2 0 10 1 -1", seen(2, 15, 15, 200), "undo",
                seen(2, 15, 15, 105), "trim 2 0 15 0 1", seen(2, 16, 15, 201), "undo", "lift 2 0 10 15",
                seen(2, 15, 15, 200), "undo", "lift 2 0 10 14", seen(2, 15, 15, 105));
        sentences.holds("A CROSSING: an event on another track is none",
                room(), "pick 0 0 5 1 1", "overwrite 2 1 10", "pick 1 0 5 1 1", "overwrite 2 0 15", "cross 2 0 15 2 5",
                seen(2, 15, 15, 200), "overwrite 2 2 10", seen(2, 15, 15, 200));
        sentences.holds("A CROSSING: none is ahead of frame 0",
                room(), "pick 1 0 5 1 1", "overwrite 2 0 0", "cross 2 0 0 2 5", seen(2, 0, 15, 200),
                "pick 0 0 5 1 1", "insert 2 0 0", seen(2, 5, 15, 105));
        sentences.holds("A CROSSING: the one behind is none",
                joined(), "cross 2 0 10 2 5", seen(2, 10, 15, 100), seen(2, 14, 15, 104));
    }

    private static void crossingsFromBehindItsEnd() {
        sentences.holds("A CROSSING: u is at its frame LENGTH + k, its own, up to the last picture and behind it",
                room(), "pick 0 14 4 1 1", "overwrite 2 0 10", "pick 1 0 5 1 1", "overwrite 2 0 14", "cross 2 0 14 2 5",
                seen(2, 14, 15, 118), seen(2, 15, 15, 119), seen(2, 16, 15, 119), seen(2, 18, 15, 119));
        sentences.holds("A CROSSING: u by its own ENTRY, SKIP and SPEED",
                room(), "pick 0 2 6 3 2", "overwrite 2 0 10", "blade 2 0 12", "blade 2 0 14", "pick 1 0 5 1 2",
                "overwrite 2 0 14", "cross 2 0 14 2 5",
                // 2 + (2 + 2 + k) * 3 / 2
                seen(2, 14, 15, 108), seen(2, 15, 15, 109), seen(2, 16, 15, 111), seen(2, 17, 15, 112),
                seen(2, 14, 0, 200), seen(2, 15, 0, 200), seen(2, 16, 0, 201));
        sentences.holds("A CROSSING within what was cut is not seen",
                room(), "pick 0 0 10 1 1", "overwrite 2 0 10", "blade 2 0 15", "cross 2 0 15 1 5 = true",
                Sentences.times(10, k -> seen(2, 10 + k, 15, 100 + k)));
    }

    private static void crossingsBySourceAlone() {
        sentences.holds("A CROSSING: u is that one's colour by its source alone",
                joined(), "pick 1 10 3 1 1", "overwrite 2 0 7", "cross 2 0 10 2 5", "style 2 0 10 4 3",
                "cross 2 0 15 2 5", seen(2, 15, 15, 105), seen(2, 15, 0, 200), "style 2 0 15 1 256",
                seen(2, 15, 15, 105));
        sentences.holds("A CROSSING: the blend and the level are of what it makes",
                joined(), "cross 2 0 15 2 5", "style 2 0 15 0 128", seen(2, 15, 15, (105 * 128 + 128) / 256),
                seen(2, 15, 0, 100), "pick 1 0 5 1 1", "overwrite 2 1 15", "style 2 0 15 0 256",
                "style 2 1 15 4 256", seen(2, 15, 15, 95), seen(2, 15, 0, 0));
    }

    private static void crossingsWeights() {
        for (int frames : new int[] {1, 2, 3, 6, 15, 39, 40, 198, 199}) {
            sentences.holds("A CROSSING of kind 1: w being 256 (k + 1) / (T + 1), rounded down, T " + frames,
                    "clip 40", "clip 40", "sequence", Sentences.times(40, i -> painted(0, i, 0xFF0064)),
                    Sentences.times(40, i -> painted(1, i, 0x00FFC8)), "pick 0 0 1 1 1", "overwrite 2 0 0",
                    "pick 1 0 199 1 5", "overwrite 2 0 1", "cross 2 0 1 1 " + frames, seen(2, 0, 0, 0xFF0064),
                    Sentences.times(frames, k -> seen(2, 1 + k, k % 16, mixed(256 * (k + 1) / (frames + 1)))),
                    seen(2, 1 + frames, 0, frames < 199 ? 0x00FFC8 : 0));
        }
    }

    /** So many 256ths of 0x00FFC8, the rest of 0xFF0064. */
    private static int mixed(int w) {
        int red = (255 * (256 - w) + 128) / 256;
        int green = (255 * w + 128) / 256;
        int blue = (100 * (256 - w) + 200 * w + 128) / 256;
        return 65536 * red + 256 * green + blue;
    }

    private static void crossingsOfAllKindsOfWipes() {
        // For each frame the first pixel that is still the old one.
        int[][] firstOld = {{}, {8}, {6, 11}, {4, 8, 12}, {4, 7, 10, 13}};
        for (int frames = 1; frames <= 4; frames++) {
            int crossed = frames;
            sentences.holds("A CROSSING of kind 2: t if p (T + 1) is less than 16 (k + 1), T " + frames,
                    joined(), "cross 2 0 15 2 " + frames,
                    Sentences.times(16 * frames, i -> seen(2, 15 + i / 16, i % 16,
                            (i % 16 < firstOld[crossed][i / 16] ? 200 : 105) + i / 16)));
        }
        sentences.holds("A CROSSING of kind 2: one pixel more with each frame",
                room(), "pick 0 0 1 1 1", "overwrite 2 0 0", "pick 1 0 20 1 1", "overwrite 2 0 1", "cross 2 0 1 2 15",
                Sentences.times(15, k -> seen(2, 1 + k, k, 200 + k)),
                Sentences.times(15, k -> seen(2, 1 + k, k + 1, 101 + k)), seen(2, 16, 15, 215));
    }

    private static void behindTheFramesOfASequence() {
        sentences.holds("THE COLOUR of a sequence within another one: black behind its frames",
                room(), "sequence = 3", "pick 0 0 1 1 1", "overwrite 2 0 0", "overwrite 2 0 199", "pick 2 198 4 1 1",
                "overwrite 3 0 0", seen(3, 0, 0, 0), seen(3, 1, 0, 100), seen(3, 2, 0, 0), seen(3, 3, 0, 0),
                "pick 2 1000 200 8 1", "overwrite 3 0 0", seen(3, 0, 0, 0), seen(3, 199, 0, 0), "pick 2 0 200 1 1",
                "overwrite 3 0 0", seen(3, 0, 0, 100), seen(3, 1, 0, 0), seen(3, 199, 0, 100), seen(3, 200, 0, 0));
        sentences.holds("A CROSSING: u of a sequence, at frames that come behind",
                room(), "sequence = 3", "pick 0 0 3 1 1", "overwrite 2 0 0", "pick 2 0 2 1 1", "overwrite 3 0 0",
                "pick 1 0 3 1 1", "overwrite 3 0 2", "cross 3 0 2 2 3", seen(3, 2, 15, 102), seen(3, 3, 15, 0),
                seen(3, 3, 0, 201));
    }

    private static void deepest() {
        sentences.holds("THE COLOUR: at depth 4",
                "clip 1", painted(0, 0, 0xFFFFFF), Sentences.times(5, i -> "sequence"),
                Sentences.times(15, i -> i % 3 == 0 ? "pick " + i / 3 + " 0 1 1 1"
                        : i % 3 == 1 ? "overwrite " + (i / 3 + 1) + " 1 0 = true"
                        : "style " + (i / 3 + 1) + " 1 0 0 128 = true"),
                "about 5 2 = 4", seen(1, 0, 0, 0x808080), seen(2, 0, 0, 0x404040), seen(3, 0, 0, 0x202020),
                seen(4, 0, 0, 0x101010), seen(5, 0, 0, 0x080808));
    }
}
