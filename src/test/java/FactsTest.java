/** Promises 17 and 18: event, about. */
public final class FactsTest {
    private static final Due due = new Due();

    public static void main(String[] args) {
        promise17Event();
        promise17EventRefused();
        promise18About();
        promise18Users();
        promise18ChainOfFallingNumbers();
        promise18AboutRefused();
        due.end();
    }

    /** Clip 0, sequence 1 with two events on track 2, the later one laid first; sequence 2. */
    private static CuttingRoom room() {
        CuttingRoom room = new CuttingRoom();
        room.clip(20);
        room.sequence();
        room.sequence();
        room.pick(0, 3, 4, 5, 6);
        room.overwrite(1, 2, 50);
        Due.lay(room, 2, 7, 9, 1, 2, 30);
        room.trim(1, 2, 50, 0, 1);
        room.style(1, 2, 51, 3, 77);
        room.cross(1, 2, 51, 2, 1);
        return room;
    }

    private static void promise17Event() {
        CuttingRoom room = room();
        int[][] want = {{2, 7, 0, 30, 9, 1, 1, 0, 256, 0, 0}, {0, 3, 1, 51, 3, 5, 6, 3, 77, 2, 1}};
        for (int i = 0; i < 2; i++) {
            for (int what = 0; what <= 10; what++) {
                due.is("event " + i + " what " + what, room.event(1, 2, i, what), want[i][what]);
            }
        }
        due.is("events of track 2", room.event(1, 2, CuttingRoom.NONE, 0), 2);
        due.is("events of track 0", room.event(1, 0, CuttingRoom.NONE, 0), 0);
    }

    private static void promise17EventRefused() {
        CuttingRoom room = room();
        int[][] bad = {
            {0, 2, 0, 0}, {0, 2, -1, 0}, {3, 2, 0, 0}, {-1, 2, 0, 0}, {1, 3, 0, 0}, {1, -1, 0, 0}, {1, -1, -1, 0},
            {1, 2, 2, 0}, {1, 2, -2, 0}, {1, 0, 0, 0}, {1, 2, 0, 11}, {1, 2, 0, -1}, {1, 2, -1, 1}, {1, 2, -1, -1},
            {1, 2, Integer.MAX_VALUE, 0}, {1, 2, Integer.MIN_VALUE, 0}, {1, 3, -1, 0}};
        for (int[] b : bad) {
            due.throwsA("event " + java.util.Arrays.toString(b), IndexOutOfBoundsException.class,
                    () -> room.event(b[0], b[1], b[2], b[3]));
        }
    }

    private static void promise18About() {
        CuttingRoom room = room();
        due.is("a clip", room.about(0, 0), 0);
        due.is("its pictures", room.about(0, 1), 20);
        due.is("its depth", room.about(0, 2), 0);
        due.is("a sequence", room.about(1, 0), 1);
        due.is("its frames", room.about(1, 1), 54);
        due.is("its depth", room.about(1, 2), 1);
        due.is("an empty one's frames", room.about(2, 1), 0);
        due.is("an empty one's depth", room.about(2, 2), 0);
        Due.lay(room, 0, 0, 1, 1, 0, 199);
        due.is("frames by another track", room.about(1, 1), 200);
        Due.lay(room, 0, 0, 1, 2, 0, 0);
        due.is("the depth with a clip alone", room.about(2, 2), 0);
    }

    private static void promise18Users() {
        CuttingRoom room = room();
        due.is("users of the clip", room.about(0, 3), 1);
        due.is("users of 1", room.about(1, 3), 0);
        due.is("users of 2", room.about(2, 3), 1);
        for (int sequence = 3; sequence <= 6; sequence++) {
            room.sequence();
        }
        // 0 in 3 in 4 in 5 in 6 in 1, which is the fifth that uses it; 2 is beside them.
        room.lift(1, 2, 0, 200);
        Due.lay(room, 0, 0, 5, 3, 0, 0);
        Due.lay(room, 3, 0, 5, 4, 1, 0);
        Due.lay(room, 4, 0, 5, 5, 2, 0);
        Due.lay(room, 5, 0, 5, 6, 0, 0);
        Due.lay(room, 6, 0, 5, 1, 0, 0);
        Due.lay(room, 3, 0, 5, 1, 1, 0);
        int[] users = {5, 0, 0, 4, 3, 2, 1};
        int[] depths = {0, 4, 0, 0, 1, 2, 3};
        for (int source = 0; source < users.length; source++) {
            due.is("users of " + source, room.about(source, 3), users[source]);
            due.is("depth of " + source, room.about(source, 2), depths[source]);
        }
    }

    private static void promise18ChainOfFallingNumbers() {
        CuttingRoom room = new CuttingRoom();
        for (int sequence = 0; sequence <= 5; sequence++) {
            room.sequence();
        }
        room.clip(5);
        for (int sequence = 4; sequence >= 0; sequence--) {
            int part = sequence == 4 ? 6 : sequence + 1;
            due.yes(part + " in " + sequence, Due.lay(room, part, 0, 5, sequence, 0, 0));
        }
        due.no("depth 5", Due.lay(room, 5, 0, 5, 4, 1, 0));
        for (int sequence = 0; sequence <= 4; sequence++) {
            due.is("users of " + sequence, room.about(sequence, 3), sequence);
            due.is("depth of " + sequence, room.about(sequence, 2), 4 - sequence);
        }
        due.is("users of the clip", room.about(6, 3), 5);
    }

    private static void promise18AboutRefused() {
        CuttingRoom room = room();
        int[][] bad = {{3, 0}, {-1, 0}, {16, 0}, {0, 4}, {0, -1}, {1, 4}, {1, -1}, {Integer.MIN_VALUE, 1}};
        for (int[] b : bad) {
            due.throwsA("about " + java.util.Arrays.toString(b), IndexOutOfBoundsException.class,
                    () -> room.about(b[0], b[1]));
        }
    }
}
