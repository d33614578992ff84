import java.util.ArrayDeque;
import java.util.ArrayList;
import java.util.Comparator;
import java.util.Deque;
import java.util.HashSet;
import java.util.List;
import java.util.Random;
import java.util.Set;

/**
 * All promises: runs of calls, each run from a seed, on a room and on a second program that was written from the
 * document in another way (whole states are copied, tracks are lists of rows, colours are worked out by division).
 */
public final class ModelTest {
    private static final int RUNS = 1500;
    /** An object is used for 512 calls; the rest of them looks at pictures at the end. */
    private static final int CALLS = 432;
    private static final int LOOKS = 80;
    private static final int SOURCE = 0, ENTRY = 1, SKIP = 2, START = 3, LENGTH = 4, NUM = 5, DEN = 6, BLEND = 7,
            LEVEL = 8, KIND = 9, CROSS = 10;
    private static final long ARGUMENT = Long.MIN_VALUE, STATE = ARGUMENT + 1, INDEX = ARGUMENT + 2;

    public static void main(String[] args) {
        int[] agreed = new int[18];
        for (int run = 0; run < RUNS; run++) {
            oneRun(run, agreed);
        }
        for (int call = 4; call < 14; call++) {
            if (agreed[call] < 3 * RUNS) {
                System.out.println("call " + call + " was true or without a throw only " + agreed[call] + " times");
                System.exit(1);
            }
        }
        System.out.println("all answers are as due in " + RUNS + " runs");
    }

    private static void oneRun(int run, int[] agreed) {
        Random random = new Random(run);
        CuttingRoom room = new CuttingRoom();
        Model model = new Model();
        List<String> told = new ArrayList<>();
        // Some runs are mainly of edits, to fill the history and the tracks.
        int edits = 3 + run % 3 * 3;
        for (int i = 0; i < CALLS; i++) {
            int call = i < 6 ? i % 2 : chooseCall(random, edits);
            int[] a = new int[5];
            for (int j = 0; j < 5; j++) {
                a[j] = chooseArgument(random, call, j, a, model);
            }
            long got = onRoom(room, call, a);
            long due = onModel(model, call, a);
            told.add(call + java.util.Arrays.toString(a) + " " + got);
            if (got != due) {
                System.out.println(String.join("\n", told));
                System.out.println("run " + run + ": the last answer is not as due, which is " + due);
                System.exit(1);
            }
            agreed[call] += got == 1 || call == 4 && got == 0 ? 1 : 0;
        }
        comparePictures(run, room, model);
    }

    private static int chooseCall(Random random, int edits) {
        int die = random.nextInt(20);
        if (die < edits) {
            return 5 + random.nextInt(8);
        }
        if (die < edits + 3) {
            return random.nextInt(3) == 0 ? 3 : 4;
        }
        return random.nextInt(8) == 0 ? random.nextInt(3) : 3 + random.nextInt(15);
    }

    private static final int[] EXTREMES = {
        -1, 0, 1, 15, 16, 30, 40, 41, 199, 200, 201, 255, 256, 257, 1000, 1001, -200, -201, 0xFFFFFF, 0x1000000,
        Integer.MAX_VALUE, Integer.MIN_VALUE, Integer.MAX_VALUE - 3, Integer.MIN_VALUE + 3};

    /** The most that each argument of each call has ordinarily; the least is 0, but for trim's k. */
    private static final int[][] MOST = {
        {12}, {0}, {0}, {16, 12, 8, 15, 0xFFFFFF}, {16, 10, 12, 4, 4}, {16, 2, 60}, {16, 2, 60}, {16, 2, 60, 70},
        {16, 60, 70}, {16, 2, 60}, {16, 2, 60, 4, 8}, {16, 2, 60, 2, 8}, {16, 2, 60, 4, 256}, {0}, {0},
        {16, 70, 15}, {16, 2, 8, 10}, {16, 3}};

    private static int chooseArgument(Random random, int call, int j, int[] a, Model model) {
        int[] most = MOST[call];
        if (j >= most.length) {
            return 0;
        }
        if (random.nextInt(60) == 0) {
            return EXTREMES[random.nextInt(EXTREMES.length)];
        }
        if (j == 0 && call >= 3 && !model.sources.isEmpty()) {
            return chooseSource(random, call, model);
        }
        if (call == 7 && j == 3 || call == 8 && j == 2) {
            return a[j - 1] + random.nextInt(9);
        }
        if (5 <= call && call <= 12 && call != 8 && j == 2 && random.nextInt(4) > 0) {
            return chooseCoveredFrame(random, a, model);
        }
        if (call == 10 && j == 4) {
            return random.nextInt(13) - 6;
        }
        if (call == 4 && j >= 3) {
            return 1 + random.nextInt(3);
        }
        if (call == 16 && j == 2) {
            return random.nextInt(10) - 1;
        }
        return random.nextInt(most[j] + 1);
    }

    /** Edits and events are of sequences, but sometimes of what is none. */
    private static int chooseSource(Random random, int call, Model model) {
        int s = random.nextInt(model.sources.size());
        boolean wantsSequence = call >= 5 && call != 17 && random.nextInt(30) > 0;
        for (int tries = 0; tries < 16 && wantsSequence && !model.isSequence(s); tries++) {
            s = (s + 1) % model.sources.size();
        }
        return s;
    }

    private static int chooseCoveredFrame(Random random, int[] a, Model model) {
        boolean isTrack = model.isSequence(a[0]) && 0 <= a[1] && a[1] <= 2;
        if (!isTrack || model.now.get(a[0]).get(a[1]).isEmpty()) {
            return random.nextInt(60);
        }
        List<int[]> track = model.now.get(a[0]).get(a[1]);
        int[] e = track.get(random.nextInt(track.size()));
        return e[START] + random.nextInt(e[LENGTH]);
    }

    private static long onRoom(CuttingRoom room, int call, int[] a) {
        try {
            switch (call) {
                case 0: return room.clip(a[0]);
                case 1: return room.sequence();
                case 2: return room.count(a[0]);
                case 3: return room.paint(a[0], a[1], a[2], a[3], a[4]) ? 1 : 0;
                case 4: room.pick(a[0], a[1], a[2], a[3], a[4]); return 0;
                case 5: return room.insert(a[0], a[1], a[2]) ? 1 : 0;
                case 6: return room.overwrite(a[0], a[1], a[2]) ? 1 : 0;
                case 7: return room.lift(a[0], a[1], a[2], a[3]) ? 1 : 0;
                case 8: return room.extract(a[0], a[1], a[2]) ? 1 : 0;
                case 9: return room.blade(a[0], a[1], a[2]) ? 1 : 0;
                case 10: return room.trim(a[0], a[1], a[2], a[3], a[4]) ? 1 : 0;
                case 11: return room.cross(a[0], a[1], a[2], a[3], a[4]) ? 1 : 0;
                case 12: return room.style(a[0], a[1], a[2], a[3], a[4]) ? 1 : 0;
                case 13: return room.undo() ? 1 : 0;
                case 14: return room.redo() ? 1 : 0;
                case 15: return room.pixel(a[0], a[1], a[2]);
                case 16: return room.event(a[0], a[1], a[2], a[3]);
                default: return room.about(a[0], a[1]);
            }
        } catch (IllegalArgumentException e) {
            return ARGUMENT;
        } catch (IllegalStateException e) {
            return STATE;
        } catch (IndexOutOfBoundsException e) {
            return e.getClass() == IndexOutOfBoundsException.class ? INDEX : INDEX + 1;
        }
    }

    private static long onModel(Model model, int call, int[] a) {
        switch (call) {
            case 0: return a[0] < 1 || a[0] > 40 ? ARGUMENT : model.make(new int[a[0]][16]);
            case 1: return model.make(null);
            case 2: return model.counted(a[0]);
            case 3: return model.painted(a) ? 1 : 0;
            case 4: return model.picks(a);
            case 13: return model.back() ? 1 : 0;
            case 14: return model.forth() ? 1 : 0;
            case 15: return model.isSource(a[0]) && 0 <= a[2] && a[2] < 16 ? model.colour(a[0], a[1], a[2]) : INDEX;
            case 16: return model.eventFact(a);
            case 17: return model.isSource(a[0]) ? model.sourceFact(a[0], a[1]) : INDEX;
            default: return model.edits(call, a) ? 1 : 0;
        }
    }

    private static void comparePictures(int run, CuttingRoom room, Model model) {
        for (int look = 0; look < LOOKS; look++) {
            int s = look % model.sources.size();
            int frame = look - 1;
            if (room.pixel(s, frame, frame & 15) != model.colour(s, frame, frame & 15)) {
                System.out.println("run " + run + ": at the end source " + s + " differs at frame " + frame);
                System.exit(1);
            }
        }
    }

    private static final class Model {
        final List<int[][]> sources = new ArrayList<>();
        /** For each source three lists of rows; those of clips stay empty. */
        List<List<List<int[]>>> now = new ArrayList<>();
        final Deque<List<List<List<int[]>>>> past = new ArrayDeque<>();
        final Deque<List<List<List<int[]>>>> future = new ArrayDeque<>();
        int[] hand = null;

        long make(int[][] pictures) {
            if (sources.size() == 16) {
                return STATE;
            }
            sources.add(pictures);
            addTracks(now);
            past.forEach(Model::addTracks);
            future.forEach(Model::addTracks);
            return sources.size() - 1;
        }

        private static void addTracks(List<List<List<int[]>>> state) {
            state.add(List.of(new ArrayList<>(), new ArrayList<>(), new ArrayList<>()));
        }

        boolean isSource(int s) {
            return 0 <= s && s < sources.size();
        }

        boolean isSequence(int s) {
            return isSource(s) && sources.get(s) == null;
        }

        long counted(int what) {
            return what == 0 ? sources.size() : what == 1 ? past.size() : what == 2 ? future.size() : -1;
        }

        boolean painted(int[] a) {
            if (!isSource(a[0]) || isSequence(a[0]) || a[1] < 0 || a[1] >= sources.get(a[0]).length) {
                return false;
            }
            if (a[2] < 0 || a[2] > a[3] || a[3] > 15 || a[4] < 0 || a[4] > 256 * 256 * 256 - 1) {
                return false;
            }
            for (int p = a[2]; p <= a[3]; p++) {
                sources.get(a[0])[a[1]][p] = a[4];
            }
            return true;
        }

        long picks(int[] a) {
            if (!isSource(a[0]) || a[1] < 0 || a[1] > 1000 || a[2] < 1 || a[2] > 200) {
                return ARGUMENT;
            }
            if (a[3] < 1 || a[3] > 8 || a[4] < 1 || a[4] > 8) {
                return ARGUMENT;
            }
            int[] e = {a[0], a[1], 0, 0, a[2], a[3], a[4], 0, 256, 0, 0};
            if (!good(e)) {
                return ARGUMENT;
            }
            hand = e;
            return 0;
        }

        private static int shows(int[] e, int k) {
            int above = e[ENTRY] * e[DEN] + (e[SKIP] + k) * e[NUM];
            int rest = (above % e[DEN] + e[DEN]) % e[DEN];
            return (above - rest) / e[DEN];
        }

        private boolean good(int[] e) {
            if (shows(e, 0) < 0) {
                return false;
            }
            return isSequence(e[SOURCE]) || shows(e, e[LENGTH] - 1) < sources.get(e[SOURCE]).length;
        }

        private static List<List<List<int[]>>> copy(List<List<List<int[]>>> state) {
            List<List<List<int[]>>> copy = new ArrayList<>();
            for (List<List<int[]>> tracks : state) {
                addTracks(copy);
                for (int t = 0; t < 3; t++) {
                    for (int[] e : tracks.get(t)) {
                        copy.get(copy.size() - 1).get(t).add(e.clone());
                    }
                }
            }
            return copy;
        }

        boolean back() {
            return !past.isEmpty() && shift(past, future);
        }

        boolean forth() {
            return !future.isEmpty() && shift(future, past);
        }

        private boolean shift(Deque<List<List<List<int[]>>>> from, Deque<List<List<List<int[]>>>> to) {
            to.push(now);
            now = from.pop();
            return true;
        }

        boolean edits(int call, int[] a) {
            if (!isSequence(a[0]) || call != 8 && (a[1] < 0 || a[1] > 2)) {
                return false;
            }
            List<List<List<int[]>>> before = now;
            now = copy(before);
            if (!change(call, a, now.get(a[0])) || !allowed(now.get(a[0]))) {
                now = before;
                return false;
            }
            past.push(before);
            if (past.size() > 40) {
                past.removeLast();
            }
            future.clear();
            return true;
        }

        private boolean allowed(List<List<int[]>> tracks) {
            for (List<int[]> track : tracks) {
                track.sort(Comparator.comparingInt(e -> e[START]));
                boolean[] taken = new boolean[200];
                for (int[] e : track) {
                    if (e[LENGTH] < 1 || e[START] < 0 || e[START] + e[LENGTH] > 200 || !good(e)) {
                        return false;
                    }
                    for (int n = e[START]; n < e[START] + e[LENGTH]; n++) {
                        if (taken[n]) {
                            return false;
                        }
                        taken[n] = true;
                    }
                }
                if (track.size() > 30) {
                    return false;
                }
            }
            for (int s = 0; s < sources.size(); s++) {
                if (depth(s, 0) > 4) {
                    return false;
                }
            }
            return true;
        }

        private Set<Integer> parts(int s) {
            Set<Integer> parts = new HashSet<>();
            for (List<int[]> track : now.get(s)) {
                for (int[] e : track) {
                    parts.add(e[SOURCE]);
                }
            }
            return parts;
        }

        private int depth(int s, int levels) {
            int depth = 0;
            for (int part : parts(s)) {
                if (isSequence(part)) {
                    depth = Math.max(depth, levels > 5 ? 9 : 1 + depth(part, levels + 1));
                }
            }
            return depth;
        }

        private boolean uses(int s, int used) {
            for (int part : parts(s)) {
                if (part == used || uses(part, used)) {
                    return true;
                }
            }
            return false;
        }

        /** The part of an event that covers frames from .. to - 1, or nothing. */
        private static void keep(List<int[]> kept, int[] e, int from, int to) {
            int first = Math.max(from, e[START]);
            int end = Math.min(to, e[START] + e[LENGTH]);
            if (first >= end) {
                return;
            }
            int[] part = e.clone();
            part[START] = first;
            part[LENGTH] = end - first;
            part[SKIP] = e[SKIP] + first - e[START];
            if (first > e[START]) {
                part[KIND] = 0;
                part[CROSS] = 0;
            }
            kept.add(part);
        }

        /** Frames from .. to - 1 are gone; what is behind them moves by some. */
        private static void without(List<int[]> track, int from, int to, int by) {
            List<int[]> ahead = new ArrayList<>();
            List<int[]> behind = new ArrayList<>();
            for (int[] e : track) {
                keep(ahead, e, 0, from);
                keep(behind, e, to, 1000);
            }
            track.clear();
            track.addAll(ahead);
            for (int[] e : behind) {
                e[START] += by;
                track.add(e);
            }
        }

        private static int[] covering(List<int[]> track, long frame) {
            for (int[] e : track) {
                if (e[START] <= frame && frame < e[START] + e[LENGTH]) {
                    return e;
                }
            }
            return null;
        }

        private boolean change(int call, int[] a, List<List<int[]>> tracks) {
            if (call == 5 || call == 6) {
                return layOn(call == 5, a, tracks);
            }
            if (call == 8) {
                return takeOut(a[1], a[2], tracks);
            }
            List<int[]> track = tracks.get(a[1]);
            if (call == 7) {
                return liftFrom(a[2], a[3], track);
            }
            int[] e = covering(track, a[2]);
            if (e == null) {
                return false;
            }
            if (call == 9) {
                without(track, a[2], a[2], 0);
                return a[2] > e[START];
            }
            if (call == 10) {
                return a[4] != 0 && Math.abs((long) a[4]) <= 200 && trimmed(track, e, a[3], a[4]);
            }
            int first = call == 11 ? KIND : BLEND;
            int most = call == 11 ? e[LENGTH] : 256;
            boolean same = e[first] == a[3] && e[first + 1] == a[4];
            e[first] = a[3];
            e[first + 1] = a[4];
            return !same && 0 <= a[3] && a[3] <= (call == 11 ? 2 : 4) && 0 <= a[4] && a[4] <= most;
        }

        private boolean layOn(boolean insert, int[] a, List<List<int[]>> tracks) {
            if (hand == null || a[2] < 0 || a[2] > 199) {
                return false;
            }
            int[] e = hand.clone();
            e[START] = a[2];
            if (insert) {
                tracks.forEach(track -> without(track, a[2], a[2], e[LENGTH]));
            } else {
                without(tracks.get(a[1]), a[2], a[2] + e[LENGTH], 0);
            }
            tracks.get(a[1]).add(e);
            return true;
        }

        private static boolean liftFrom(int from, int to, List<int[]> track) {
            boolean any = false;
            for (int n = Math.max(from, 0); n < Math.min(to, 200); n++) {
                any |= covering(track, n) != null;
            }
            if (!any || from < 0 || to > 200) {
                return false;
            }
            without(track, from, to, 0);
            return true;
        }

        private static boolean takeOut(int from, int to, List<List<int[]>> tracks) {
            boolean any = false;
            for (List<int[]> track : tracks) {
                for (int n = Math.max(from, 0); n < 200; n++) {
                    any |= covering(track, n) != null;
                }
            }
            if (!any || from < 0 || from >= to || to > 200) {
                return false;
            }
            tracks.forEach(track -> without(track, from, to, from - to));
            return true;
        }

        private static boolean trimmed(List<int[]> track, int[] e, int mode, int k) {
            int[] ahead = covering(track, e[START] - 1L);
            int[] behind = covering(track, e[START] + e[LENGTH]);
            if (mode == 2 && behind == null || mode == 4 && (ahead == null || behind == null)) {
                return false;
            }
            int[] head = mode == 0 ? e : mode == 2 || mode == 4 ? behind : null;
            int[] tail = mode == 1 || mode == 2 ? e : mode == 4 ? ahead : null;
            if (head != null) {
                head[START] += k;
                head[SKIP] += k;
                head[LENGTH] -= k;
            }
            if (tail != null) {
                tail[LENGTH] += k;
            }
            e[ENTRY] += mode == 3 ? k : 0;
            e[START] += mode == 4 ? k : 0;
            return 0 <= mode && mode <= 4;
        }

        long eventFact(int[] a) {
            if (!isSequence(a[0]) || a[1] < 0 || a[1] > 2) {
                return INDEX;
            }
            List<int[]> track = now.get(a[0]).get(a[1]);
            if (a[2] == -1 && a[3] == 0) {
                return track.size();
            }
            return a[2] < 0 || a[2] >= track.size() || a[3] < 0 || a[3] > 10 ? INDEX : track.get(a[2])[a[3]];
        }

        long sourceFact(int s, int what) {
            int frames = 0;
            int users = 0;
            for (List<int[]> track : now.get(s)) {
                for (int[] e : track) {
                    frames = Math.max(frames, e[START] + e[LENGTH]);
                }
            }
            for (int other = 0; other < sources.size(); other++) {
                users += uses(other, s) ? 1 : 0;
            }
            switch (what) {
                case 0: return isSequence(s) ? 1 : 0;
                case 1: return isSequence(s) ? frames : sources.get(s).length;
                case 2: return depth(s, 0);
                case 3: return users;
                default: return INDEX;
            }
        }

        int colour(int s, int frame, int p) {
            if (!isSequence(s)) {
                int[][] pictures = sources.get(s);
                return pictures[frame < 0 ? 0 : frame >= pictures.length ? pictures.length - 1 : frame][p];
            }
            int[] rgb = new int[3];
            for (List<int[]> track : now.get(s)) {
                int[] e = covering(track, frame);
                if (e != null) {
                    int[] top = top(track, e, frame - e[START], p);
                    for (int c = 0; c < 3; c++) {
                        int x = blended(e[BLEND], rgb[c], top[c]);
                        rgb[c] = (rgb[c] * (256 - e[LEVEL]) + x * e[LEVEL] + 128) / 256;
                    }
                }
            }
            return rgb[0] * 65536 + rgb[1] * 256 + rgb[2];
        }

        private int[] split(int colour) {
            return new int[] {colour / 65536, colour / 256 % 256, colour % 256};
        }

        private int[] top(List<int[]> track, int[] e, int k, int p) {
            int[] t = split(colour(e[SOURCE], shows(e, k), p));
            int[] ahead = covering(track, e[START] - 1L);
            if (e[KIND] == 0 || k >= e[CROSS] || ahead == null) {
                return t;
            }
            int[] u = split(colour(ahead[SOURCE], shows(ahead, ahead[LENGTH] + k), p));
            if (e[KIND] == 2) {
                return p * (e[CROSS] + 1) < 16 * (k + 1) ? t : u;
            }
            int w = 256 * (k + 1) / (e[CROSS] + 1);
            for (int c = 0; c < 3; c++) {
                t[c] = (u[c] * (256 - w) + t[c] * w + 128) / 256;
            }
            return t;
        }

        private static int blended(int blend, int b, int t) {
            switch (blend) {
                case 1: return b + t > 255 ? 255 : b + t;
                case 2: return (int) Math.round(b * t / 255.0);
                case 3: return 255 - (int) Math.round((255 - b) * (255 - t) / 255.0);
                case 4: return b > t ? b - t : t - b;
                default: return t;
            }
        }
    }
}
