/** Promise 16: pixel. */
public final class PictureTest {
    private static final Due due = new Due();

    public static void main(String[] args) {
        refused();
        anyFrameOfAClip();
        speeds();
        tracksLieOverOneAnother();
        blends();
        levels();
        mixes();
        wipes();
        crossingsNeedTheOneAhead();
        crossingsShowTheOneAheadBehindItsEnd();
        sequencesWithinSequences();
        fiveLevelsOfCrossings();
        due.end();
    }

    /** Clips 0 and 1 with ten pictures each, grey and red, one step brighter each; sequence 2. */
    private static CuttingRoom room() {
        CuttingRoom room = new CuttingRoom();
        room.clip(10);
        room.clip(10);
        room.sequence();
        for (int picture = 0; picture < 10; picture++) {
            room.paint(0, picture, 0, 15, 0x010101 * (100 + picture));
            room.paint(1, picture, 0, 15, 0x010000 * (200 + picture));
        }
        return room;
    }

    private static void refused() {
        CuttingRoom room = room();
        int[][] bad = {{3, 0, 0}, {-1, 0, 0}, {16, 0, 0}, {0, 0, 16}, {0, 0, -1}, {2, 0, 16}, {2, 0, -1}};
        for (int[] b : bad) {
            due.throwsA("pixel " + java.util.Arrays.toString(b), IndexOutOfBoundsException.class,
                    () -> room.pixel(b[0], b[1], b[2]));
        }
    }

    private static void anyFrameOfAClip() {
        CuttingRoom room = room();
        due.is("first", room.pixel(0, 0, 15), 0x646464);
        due.is("last", room.pixel(0, 9, 0), 0x6D6D6D);
        due.is("below 0", room.pixel(0, Integer.MIN_VALUE, 0), 0x646464);
        due.is("behind the last", room.pixel(0, Integer.MAX_VALUE, 0), 0x6D6D6D);
        Due.lay(room, 0, 0, 10, 2, 0, 190);
        due.is("frame 199 of a sequence", room.pixel(2, 199, 0), 0x6D6D6D);
        due.is("frame 200 of a sequence", room.pixel(2, 200, 0), 0);
        due.is("frame 189 of a sequence", room.pixel(2, 189, 0), 0);
        due.is("far below 0 of a sequence", room.pixel(2, Integer.MIN_VALUE, 0), 0);
        due.is("far behind of a sequence", room.pixel(2, Integer.MAX_VALUE, 0), 0);
    }

    private static void speeds() {
        CuttingRoom room = room();
        room.pick(0, 1, 6, 3, 2);
        room.overwrite(2, 0, 10);
        int[] shown = {1, 2, 4, 5, 7, 8};
        for (int k = 0; k < shown.length; k++) {
            due.is("frame " + k, room.pixel(2, 10 + k, 0), 0x010101 * (100 + shown[k]));
        }
        room.blade(2, 0, 13);
        for (int k = 0; k < shown.length; k++) {
            due.is("frame " + k + ", cut", room.pixel(2, 10 + k, 0), 0x010101 * (100 + shown[k]));
        }
        room.lift(2, 0, 10, 12);
        room.trim(2, 0, 12, 3, 1);
        due.is("behind an entry", room.pixel(2, 12, 0), 0x010101 * 105);
        room.trim(2, 0, 12, 3, -1);
        room.trim(2, 0, 12, 0, -2);
        due.is("the head again", room.pixel(2, 10, 0), 0x010101 * 101);
    }

    private static void tracksLieOverOneAnother() {
        CuttingRoom room = room();
        Due.lay(room, 0, 0, 6, 2, 0, 0);
        Due.lay(room, 1, 0, 2, 2, 1, 2);
        Due.lay(room, 0, 9, 1, 2, 2, 3);
        int[] want = {0x646464, 0x656565, 0xC80000, 0x6D6D6D, 0x686868, 0x696969, 0};
        for (int frame = 0; frame < want.length; frame++) {
            due.is("frame " + frame, room.pixel(2, frame, 8), want[frame]);
        }
    }

    private static void blends() {
        CuttingRoom room = new CuttingRoom();
        room.clip(1);
        room.clip(1);
        room.sequence();
        room.paint(0, 0, 0, 15, 0x0A64C8);
        room.paint(1, 0, 0, 15, 0xFF5A5A);
        Due.lay(room, 0, 0, 1, 2, 0, 0);
        Due.lay(room, 1, 0, 1, 2, 1, 0);
        int[] want = {
            0xFF5A5A,
            0xFFBEFF,
            0x0A2347,  // 10, 100 * 90 / 255 = 35.29, 200 * 90 / 255 = 70.59
            0xFF9BDB,  // 255, 255 - 155 * 165 / 255 = 154.7, 255 - 55 * 165 / 255 = 219.4
            0xF50A6E};
        for (int blend = 4; blend >= 0; blend--) {
            due.yes("style", room.style(2, 1, 0, blend, 256));
            due.is("blend " + blend, room.pixel(2, 0, 0), want[blend]);
        }
    }

    private static void levels() {
        CuttingRoom room = room();
        Due.lay(room, 1, 0, 1, 2, 0, 0);
        room.style(2, 0, 0, 0, 128);
        due.is("half of it over black", room.pixel(2, 0, 0), 0x640000);
        room.style(2, 0, 0, 0, 0);
        due.is("nothing of it", room.pixel(2, 0, 0), 0);
        room.style(2, 0, 0, 0, 1);
        due.is("(200 + 128) / 256", room.pixel(2, 0, 0), 0x010000);
        room.paint(1, 0, 0, 0, 0x7F80FF);
        due.is("just below and just at a half", room.pixel(2, 0, 0), 0x000101);
        room.paint(1, 0, 0, 0, 0xC80000);
        Due.lay(room, 0, 0, 1, 2, 1, 0);
        room.style(2, 0, 0, 0, 256);
        room.style(2, 1, 0, 1, 64);
        // red: (200 * 192 + 255 * 64 + 128) / 256; green and blue: (100 * 64 + 128) / 256
        due.is("a quarter of a sum", room.pixel(2, 0, 0), 0xD61919);
    }

    private static void mixes() {
        CuttingRoom room = room();
        Due.lay(room, 0, 0, 4, 2, 0, 0);
        Due.lay(room, 1, 0, 4, 2, 0, 4);
        room.cross(2, 0, 4, 1, 2);
        // w is 85: (104 * 171 + 200 * 85 + 128) / 256 = 136.3 and (104 * 171 + 128) / 256 = 69.9
        due.is("frame 0", room.pixel(2, 4, 0), 0x884545);
        // w is 170: (105 * 86 + 201 * 170 + 128) / 256 = 169.2 and (105 * 86 + 128) / 256 = 35.8
        due.is("frame 1", room.pixel(2, 5, 0), 0xA92323);
        due.is("frame 2", room.pixel(2, 6, 0), 0xCA0000);
        room.cross(2, 0, 4, 0, 2);
        due.is("kind 0", room.pixel(2, 4, 0), 0xC80000);
        room.cross(2, 0, 4, 1, 0);
        due.is("no frames", room.pixel(2, 4, 0), 0xC80000);
    }

    private static void wipes() {
        CuttingRoom room = room();
        Due.lay(room, 0, 0, 4, 2, 0, 0);
        Due.lay(room, 1, 0, 4, 2, 0, 4);
        room.cross(2, 0, 4, 2, 3);
        int[] fresh = {4, 8, 12, 16};
        for (int k = 0; k < 4; k++) {
            for (int pixel = 0; pixel < 16; pixel++) {
                int want = pixel < fresh[k] ? 0x010000 * (200 + k) : 0x010101 * (104 + k);
                due.is("frame " + k + " pixel " + pixel, room.pixel(2, 4 + k, pixel), want);
            }
        }
    }

    private static void crossingsNeedTheOneAhead() {
        CuttingRoom room = room();
        Due.lay(room, 0, 0, 4, 2, 0, 0);
        Due.lay(room, 1, 0, 4, 2, 0, 5);
        Due.lay(room, 0, 0, 5, 2, 1, 0);
        room.style(2, 1, 0, 0, 0);
        due.yes("cross", room.cross(2, 0, 5, 1, 4));
        due.is("a gap ahead of it", room.pixel(2, 5, 0), 0xC80000);
        due.yes("no gap", room.trim(2, 0, 0, 1, 1));
        due.is("frame 0", room.pixel(2, 5, 0), 0x7C5454);
        room.lift(2, 0, 0, 5);
        due.is("none ahead of it", room.pixel(2, 5, 0), 0xC80000);
        room.extract(2, 0, 5);
        due.is("none ahead of it, at frame 0", room.pixel(2, 0, 0), 0xC80000);
    }

    private static void crossingsShowTheOneAheadBehindItsEnd() {
        CuttingRoom room = room();
        room.pick(0, 0, 8, 1, 1);
        room.overwrite(2, 0, 0);
        Due.lay(room, 1, 0, 8, 2, 0, 8);
        room.cross(2, 0, 8, 2, 8);
        due.is("its next picture", room.pixel(2, 8, 15), 0x010101 * 108);
        due.is("its last picture", room.pixel(2, 9, 15), 0x010101 * 109);
        due.is("its last picture still", room.pixel(2, 12, 15), 0x010101 * 109);
        room.cross(2, 0, 0, 2, 8);
        room.trim(2, 0, 8, 1, -5);
        due.is("more frames than it has now", room.event(2, 0, 1, 10), 8);
        due.is("they count still", room.pixel(2, 10, 6), 0x010101 * 109);
        // Its own crossing, blend and level are not seen where it is crossed from.
        room.style(2, 0, 0, 4, 3);
        due.is("by its source alone", room.pixel(2, 8, 15), 0x010101 * 108);
    }

    private static void sequencesWithinSequences() {
        CuttingRoom room = room();
        room.sequence();
        Due.lay(room, 0, 0, 10, 2, 0, 3);
        Due.lay(room, 1, 0, 2, 2, 2, 5);
        room.pick(2, 1, 6, 2, 1);
        room.overwrite(3, 1, 10);
        int[] want = {0, 0x646464, 0xC80000, 0x686868, 0x6A6A6A, 0x6C6C6C};
        for (int k = 0; k < want.length; k++) {
            due.is("frame " + k, room.pixel(3, 10 + k, 0), want[k]);
        }
        room.paint(0, 0, 0, 0, 0x0000FF);
        due.is("painted later", room.pixel(3, 11, 0), 0x0000FF);
        room.lift(2, 0, 0, 200);
        due.is("lifted later", room.pixel(3, 11, 0), 0);
        due.is("and not", room.pixel(3, 12, 0), 0xC80000);
    }

    private static void fiveLevelsOfCrossings() {
        CuttingRoom room = new CuttingRoom();
        room.clip(40);
        room.paint(0, 0, 0, 15, 0x808080);
        for (int sequence = 1; sequence <= 5; sequence++) {
            room.sequence();
            for (int track = 0; track < 3; track++) {
                room.pick(sequence - 1, 0, 20, 1, 1);
                room.overwrite(sequence, track, 0);
                room.overwrite(sequence, track, 20);
                room.cross(sequence, track, 20, 1, 20);
            }
        }
        due.is("depth", room.about(5, 2), 4);
        due.is("frame 0", room.pixel(5, 0, 0), 0x808080);
        // At frame 20 each event shows frame 0, mixed with frame 20 of the same source, with a weight of 12.
        int[] at20 = new int[6];
        for (int sequence = 1; sequence <= 5; sequence++) {
            at20[sequence] = (at20[sequence - 1] * 244 + 128 * 12 + 128) / 256;
            due.is("frame 20 of " + sequence, room.pixel(sequence, 20, 0), 0x010101 * at20[sequence]);
        }
    }
}
