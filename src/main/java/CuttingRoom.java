import java.util.ArrayList;

/**
 * A room in which films are cut: clips of small pictures, and sequences of events on tracks.
 *
 * <p>Every edit works on a copy of the sequence's timeline. Only a copy that keeps all rules takes the
 * old one's place, so a refused edit changes nothing, and undoing is putting the old one back.
 */
public final class CuttingRoom {
    public static final int NONE = -1;

    private static final int MAX_SOURCES = 16;
    private static final int MAX_PICTURES = 40;
    private static final int PIXELS = 16;
    private static final int BLACK = 0;
    private static final int MAX_COLOUR = 0xFFFFFF;
    private static final int MAX_CHANNEL = 255;
    private static final int CHANNEL_BITS = 8;
    private static final int COLOUR_BITS = 24;
    private static final int FULL = 256;

    private static final int TRACKS = 3;
    private static final int FRAMES = 200;
    private static final int MAX_EVENTS = 30;
    private static final int MAX_ENTRY = 1000;
    private static final int MAX_SPEED = 8;
    private static final int MAX_TRIM = 200;
    private static final int MAX_DEPTH = 4;
    private static final int MAX_UNDO = 40;

    private static final int ADD = 1;
    private static final int MULTIPLY = 2;
    private static final int SCREEN = 3;
    private static final int DIFFERENCE = 4;

    private static final int NO_CROSSING = 0;
    private static final int WIPE = 2;

    private static final int HEAD = 0;
    private static final int TAIL = 1;
    private static final int ROLL = 2;
    private static final int SLIP = 3;
    private static final int SLIDE = 4;

    private final Source[] sources = new Source[MAX_SOURCES];
    private int sourceCount = 0;
    private Event picked = null;
    private final History history = new History();

    public CuttingRoom() {
    }

    public int clip(int pictures) throws IllegalArgumentException, IllegalStateException {
        if (!isWithin(pictures, 1, MAX_PICTURES)) {
            throw new IllegalArgumentException("a clip has 1 to 40 pictures");
        }
        if (sourceCount >= MAX_SOURCES) {
            throw new IllegalStateException("there are 16 sources");
        }
        return addSource(new Clip(sourceCount, pictures));
    }

    public int sequence() throws IllegalStateException {
        if (sourceCount >= MAX_SOURCES) {
            throw new IllegalStateException("there are 16 sources");
        }
        return addSource(new Sequence(sourceCount));
    }

    public boolean paint(int clip, int picture, int from, int to, int colour) {
        boolean pixelsAreGood = 0 <= from && from <= to && to < PIXELS;
        if (!pixelsAreGood || !isWithin(colour, 0, MAX_COLOUR)) {
            return false;
        }
        return findSource(clip) instanceof Clip painted && painted.fill(picture, from, to, colour);
    }

    public void pick(int source, int entry, int length, int num, int den) throws IllegalArgumentException {
        Source shown = findSource(source);
        boolean numbersAreGood = isWithin(entry, 0, MAX_ENTRY) && isWithin(length, 1, FRAMES)
                && isWithin(num, 1, MAX_SPEED) && isWithin(den, 1, MAX_SPEED);
        if (shown == null || !numbersAreGood) {
            throw new IllegalArgumentException("no such source, entry, length or speed");
        }
        Event event = new Event(shown, entry, length, num, den);
        if (!event.isGood()) {
            throw new IllegalArgumentException("the event would not be good");
        }
        picked = event;
    }

    public boolean insert(int sequence, int track, int at) {
        if (picked == null || !isFrame(at)) {
            return false;
        }
        Timeline draft = draftOf(sequence, track);
        if (draft == null) {
            return false;
        }
        draft.makeRoom(at, picked.length);
        draft.tracks[track].lay(picked, at);
        return accept(sequence, draft);
    }

    public boolean overwrite(int sequence, int track, int at) {
        if (picked == null || !isFrame(at)) {
            return false;
        }
        Timeline draft = draftOf(sequence, track);
        if (draft == null) {
            return false;
        }
        draft.tracks[track].clear(at, at + picked.length);
        draft.tracks[track].lay(picked, at);
        return accept(sequence, draft);
    }

    public boolean lift(int sequence, int track, int from, int to) {
        if (!isSpan(from, to)) {
            return false;
        }
        Timeline draft = draftOf(sequence, track);
        if (draft == null || !draft.tracks[track].hasEventIn(from, to)) {
            return false;
        }
        draft.tracks[track].clear(from, to);
        return accept(sequence, draft);
    }

    public boolean extract(int sequence, int from, int to) {
        if (!isSpan(from, to)) {
            return false;
        }
        Timeline draft = draftOf(sequence, 0);
        // What covers one of the frames or starts behind them ends behind the first one, and only that.
        if (draft == null || draft.end() <= from) {
            return false;
        }
        draft.takeOut(from, to);
        return accept(sequence, draft);
    }

    public boolean blade(int sequence, int track, int at) {
        Timeline draft = draftOf(sequence, track);
        if (draft == null || !draft.tracks[track].cutAt(at)) {
            return false;
        }
        return accept(sequence, draft);
    }

    public boolean trim(int sequence, int track, int at, int mode, int k) {
        if (k == 0 || !isWithin(k, -MAX_TRIM, MAX_TRIM)) {
            return false;
        }
        Timeline draft = draftOf(sequence, track);
        if (draft == null || !draft.tracks[track].adjust(at, mode, k)) {
            return false;
        }
        return accept(sequence, draft);
    }

    public boolean cross(int sequence, int track, int at, int kind, int frames) {
        Timeline draft = draftOf(sequence, track);
        if (draft == null) {
            return false;
        }
        Event event = draft.tracks[track].eventAt(at);
        if (event == null || !event.takeCrossing(kind, frames)) {
            return false;
        }
        return accept(sequence, draft);
    }

    public boolean style(int sequence, int track, int at, int blend, int level) {
        Timeline draft = draftOf(sequence, track);
        if (draft == null) {
            return false;
        }
        Event event = draft.tracks[track].eventAt(at);
        if (event == null || !event.takeStyle(blend, level)) {
            return false;
        }
        return accept(sequence, draft);
    }

    public boolean undo() {
        return history.stepBack();
    }

    public boolean redo() {
        return history.stepForward();
    }

    public int pixel(int source, int frame, int pixel) throws IndexOutOfBoundsException {
        Source shown = findSource(source);
        if (shown == null || !isWithin(pixel, 0, PIXELS - 1)) {
            throw new IndexOutOfBoundsException("no such source or pixel");
        }
        return shown.colourAt(frame, pixel, MAX_DEPTH);
    }

    public int event(int sequence, int track, int i, int what) throws IndexOutOfBoundsException {
        Sequence asked = findSequence(sequence);
        if (asked == null || !isTrack(track)) {
            throw new IndexOutOfBoundsException("no such sequence or track");
        }
        Track events = asked.timeline.tracks[track];
        if (i == NONE && what == 0) {
            return events.size();
        }
        Event event = events.get(i);
        if (event == null || !isWithin(what, 0, Event.LAST_FACT)) {
            throw new IndexOutOfBoundsException("no such event or fact of it");
        }
        return event.fact(what);
    }

    public int about(int source, int what) throws IndexOutOfBoundsException {
        Source asked = findSource(source);
        if (asked == null || !isWithin(what, 0, 3)) {
            throw new IndexOutOfBoundsException("no such source or fact of it");
        }
        switch (what) {
            case 0:
                return asked instanceof Sequence ? 1 : 0;
            case 1:
                return asked.extent();
            case 2:
                return depths()[asked.number];
            default:
                return userCount(asked);
        }
    }

    public int count(int what) {
        switch (what) {
            case 0:
                return sourceCount;
            case 1:
                return history.done.size();
            case 2:
                return history.undone.size();
            default:
                return NONE;
        }
    }

    private static boolean isWithin(int value, int least, int most) {
        return least <= value && value <= most;
    }

    private static boolean isTrack(int track) {
        return isWithin(track, 0, TRACKS - 1);
    }

    private static boolean isFrame(int frame) {
        return isWithin(frame, 0, FRAMES - 1);
    }

    private static boolean isSpan(int from, int to) {
        return 0 <= from && from < to && to <= FRAMES;
    }

    private int addSource(Source source) {
        sources[sourceCount] = source;
        sourceCount++;
        return source.number;
    }

    private Source findSource(int number) {
        return isWithin(number, 0, sourceCount - 1) ? sources[number] : null;
    }

    private Sequence findSequence(int number) {
        return findSource(number) instanceof Sequence found ? found : null;
    }

    /** A copy of a sequence's timeline to work on; null if there is no such sequence or track. */
    private Timeline draftOf(int sequence, int track) {
        Sequence edited = findSequence(sequence);
        return edited == null || !isTrack(track) ? null : edited.timeline.duplicate();
    }

    /** Puts a draft in its sequence's place, unless a rule is broken by it. */
    private boolean accept(int sequence, Timeline draft) {
        Sequence edited = findSequence(sequence);
        if (edited == null || !draft.isSound()) {
            return false;
        }
        Timeline before = edited.timeline;
        edited.timeline = draft;
        if (isTooDeep()) {
            edited.timeline = before;
            return false;
        }
        history.record(new Edit(edited, before, draft));
        return true;
    }

    /** True in a circle of sequences too, as there the depths grow with every round. */
    private boolean isTooDeep() {
        int[] depths = depths();
        for (int s = 0; s < sourceCount; s++) {
            if (depths[s] > MAX_DEPTH) {
                return true;
            }
        }
        return false;
    }

    /** The depth of every source. Each round sees at least one level further, one more than is allowed in all. */
    private int[] depths() {
        int[] uses = new int[MAX_SOURCES];
        for (int s = 0; s < sourceCount; s++) {
            uses[s] = sources[s].usedBits();
        }
        int[] depths = new int[MAX_SOURCES];
        for (int round = 0; round <= MAX_DEPTH; round++) {
            for (int s = 0; s < sourceCount; s++) {
                depths[s] = depthAbove(uses[s], depths);
            }
        }
        return depths;
    }

    private int depthAbove(int usedBits, int[] depths) {
        int depth = 0;
        for (int s = 0; s < sourceCount; s++) {
            boolean isUsed = (usedBits >> s & 1) == 1;
            if (isUsed && sources[s] instanceof Sequence) {
                depth = Math.max(depth, depths[s] + 1);
            }
        }
        return depth;
    }

    /** How many sequences use a source. Each round finds those that are at least one level further. */
    private int userCount(Source source) {
        int found = 1 << source.number;
        for (int round = 0; round <= MAX_DEPTH; round++) {
            for (int s = 0; s < sourceCount; s++) {
                if ((sources[s].usedBits() & found) != 0) {
                    found |= 1 << s;
                }
            }
        }
        return Integer.bitCount(found) - 1;
    }

    /** A clip or a sequence. */
    private abstract static class Source {
        final int number;

        Source(int number) {
            this.number = number;
        }

        /** The colour of a pixel at any frame; sequences are followed down by so many levels at most. */
        abstract int colourAt(int frame, int pixel, int levels);

        /** Whether an event may show this frame as its last one. */
        abstract boolean mayEndWith(int frame);

        /** How many pictures or frames there are. */
        abstract int extent();

        /** One bit for each source of which there is an event. */
        abstract int usedBits();
    }

    private static final class Clip extends Source {
        private final int[][] pictures;

        Clip(int number, int count) {
            super(number);
            pictures = new int[count][PIXELS];
        }

        boolean fill(int picture, int from, int to, int colour) {
            if (!isWithin(picture, 0, pictures.length - 1)) {
                return false;
            }
            for (int p = from; p <= to; p++) {
                pictures[picture][p] = colour;
            }
            return true;
        }

        int colourAt(int frame, int pixel, int levels) {
            int shown = Math.max(0, Math.min(frame, pictures.length - 1));
            return pictures[shown][pixel];
        }

        boolean mayEndWith(int frame) {
            return frame < pictures.length;
        }

        int extent() {
            return pictures.length;
        }

        int usedBits() {
            return 0;
        }
    }

    private static final class Sequence extends Source {
        Timeline timeline = new Timeline();

        Sequence(int number) {
            super(number);
        }

        int colourAt(int frame, int pixel, int levels) {
            int colour = BLACK;
            if (levels < 0) {
                return colour;
            }
            for (int t = 0; t < TRACKS; t++) {
                colour = timeline.tracks[t].colourOver(colour, frame, pixel, levels);
            }
            return colour;
        }

        boolean mayEndWith(int frame) {
            return true;
        }

        int extent() {
            return timeline.end();
        }

        int usedBits() {
            int bits = 0;
            for (int t = 0; t < TRACKS; t++) {
                bits |= timeline.tracks[t].usedBits();
            }
            return bits;
        }
    }

    /** What a sequence holds at one time. It never changes once it was accepted. */
    private static final class Timeline {
        final Track[] tracks = new Track[TRACKS];

        Timeline() {
            for (int t = 0; t < TRACKS; t++) {
                tracks[t] = new Track();
            }
        }

        Timeline duplicate() {
            Timeline copy = new Timeline();
            for (int t = 0; t < TRACKS; t++) {
                tracks[t].copyTo(copy.tracks[t]);
            }
            return copy;
        }

        void makeRoom(int at, int length) {
            for (int t = 0; t < TRACKS; t++) {
                tracks[t].cutAt(at);
                tracks[t].moveFrom(at, length);
            }
        }

        void takeOut(int from, int to) {
            for (int t = 0; t < TRACKS; t++) {
                tracks[t].clear(from, to);
                tracks[t].moveFrom(to, from - to);
            }
        }

        int end() {
            int end = 0;
            for (int t = 0; t < TRACKS; t++) {
                end = Math.max(end, tracks[t].end());
            }
            return end;
        }

        boolean isSound() {
            for (int t = 0; t < TRACKS; t++) {
                if (!tracks[t].isSound()) {
                    return false;
                }
            }
            return true;
        }
    }

    /** Events by their starts. A draft may break the rules for a while: isSound tells. */
    private static final class Track {
        private final ArrayList<Event> events = new ArrayList<>();

        void copyTo(Track copy) {
            for (int i = 0; i < events.size(); i++) {
                copy.events.add(new Event(events.get(i)));
            }
        }

        int size() {
            return events.size();
        }

        /** The i-th event, or null if there is none such. */
        Event get(int i) {
            return isWithin(i, 0, events.size() - 1) ? events.get(i) : null;
        }

        /** The number of the event that covers a frame, or NONE. */
        int indexAt(int frame) {
            for (int i = 0; i < events.size(); i++) {
                if (events.get(i).covers(frame)) {
                    return i;
                }
            }
            return NONE;
        }

        Event eventAt(int frame) {
            return get(indexAt(frame));
        }

        boolean hasEventIn(int from, int to) {
            for (int i = 0; i < events.size(); i++) {
                Event event = events.get(i);
                if (event.start < to && event.end() > from) {
                    return true;
                }
            }
            return false;
        }

        /** Whether there was an event to be cut: one that covers the frame and does not begin there. */
        boolean cutAt(int frame) {
            int i = indexAt(frame);
            Event event = get(i);
            if (event == null || event.start == frame) {
                return false;
            }
            events.add(i + 1, event.splitAt(frame));
            return true;
        }

        void clear(int from, int to) {
            cutAt(from);
            cutAt(to);
            for (int i = events.size() - 1; i >= 0; i--) {
                Event event = events.get(i);
                if (event.start >= from && event.end() <= to) {
                    events.remove(i);
                }
            }
        }

        void moveFrom(int from, int by) {
            for (int i = 0; i < events.size(); i++) {
                Event event = events.get(i);
                if (event.start >= from) {
                    event.start += by;
                }
            }
        }

        void lay(Event like, int at) {
            Event laid = new Event(like);
            laid.start = at;
            int place = 0;
            while (place < events.size() && events.get(place).start < at) {
                place++;
            }
            events.add(place, laid);
        }

        /** Whether the mode is known and the events that it needs are there. */
        boolean adjust(int at, int mode, int k) {
            int i = indexAt(at);
            Event event = get(i);
            if (event == null) {
                return false;
            }
            switch (mode) {
                case HEAD:
                    event.moveHead(k);
                    return true;
                case TAIL:
                    event.length += k;
                    return true;
                case ROLL:
                    return roll(event, joinedBehind(i), k);
                case SLIP:
                    event.entry += k;
                    return true;
                case SLIDE:
                    return slide(joinedAhead(i), event, joinedBehind(i), k);
                default:
                    return false;
            }
        }

        private static boolean roll(Event event, Event behind, int k) {
            if (behind == null) {
                return false;
            }
            event.length += k;
            behind.moveHead(k);
            return true;
        }

        private static boolean slide(Event ahead, Event event, Event behind, int k) {
            if (ahead == null || behind == null) {
                return false;
            }
            ahead.length += k;
            event.start += k;
            behind.moveHead(k);
            return true;
        }

        /** The event that ends where the i-th one starts, or null. */
        private Event joinedAhead(int i) {
            Event event = get(i);
            Event ahead = get(i - 1);
            return event != null && ahead != null && ahead.end() == event.start ? ahead : null;
        }

        /** The event that starts where the i-th one ends, or null. */
        private Event joinedBehind(int i) {
            Event event = get(i);
            Event behind = get(i + 1);
            return event != null && behind != null && event.end() == behind.start ? behind : null;
        }

        int end() {
            return events.isEmpty() ? 0 : events.get(events.size() - 1).end();
        }

        int usedBits() {
            int bits = 0;
            for (int i = 0; i < events.size(); i++) {
                bits |= 1 << events.get(i).source.number;
            }
            return bits;
        }

        boolean isSound() {
            if (events.size() > MAX_EVENTS) {
                return false;
            }
            int free = 0;
            for (int i = 0; i < events.size(); i++) {
                Event event = events.get(i);
                if (event.length < 1 || event.start < free || !event.isGood()) {
                    return false;
                }
                free = event.end();
            }
            return free <= FRAMES;
        }

        /** What there is once this track lies over the colour below it. */
        int colourOver(int below, int frame, int pixel, int levels) {
            int i = indexAt(frame);
            Event event = get(i);
            if (event == null) {
                return below;
            }
            int top = event.crossedColour(joinedAhead(i), frame - event.start, pixel, levels);
            return Colours.mix(below, Colours.blend(event.blend, below, top), event.level);
        }
    }

    private static final class Event {
        static final int LAST_FACT = 10;

        final Source source;
        final int num;
        final int den;
        int entry;
        int skip = 0;
        int start = 0;
        int length;
        int blend = 0;
        int level = FULL;
        int crossing = NO_CROSSING;
        int crossingFrames = 0;

        Event(Source source, int entry, int length, int num, int den) {
            this.source = source;
            this.entry = entry;
            this.length = length;
            this.num = num;
            this.den = den;
        }

        Event(Event like) {
            source = like.source;
            entry = like.entry;
            skip = like.skip;
            start = like.start;
            length = like.length;
            num = like.num;
            den = like.den;
            blend = like.blend;
            level = like.level;
            crossing = like.crossing;
            crossingFrames = like.crossingFrames;
        }

        int end() {
            return start + length;
        }

        boolean covers(int frame) {
            return start <= frame && frame < end();
        }

        /** The source's frame that is shown at the event's frame k. */
        int shownAt(int k) {
            return entry + Math.floorDiv((skip + k) * num, den);
        }

        boolean isGood() {
            return shownAt(0) >= 0 && source.mayEndWith(shownAt(length - 1));
        }

        void moveHead(int k) {
            start += k;
            skip += k;
            length -= k;
        }

        /** Ends this event ahead of a frame that it covers; the answer is its rest. */
        Event splitAt(int frame) {
            Event rest = new Event(this);
            rest.moveHead(frame - start);
            rest.crossing = NO_CROSSING;
            rest.crossingFrames = 0;
            length = frame - start;
            return rest;
        }

        /** Whether the crossing is one that the event can have and has not. */
        boolean takeCrossing(int kind, int frames) {
            boolean isKnown = isWithin(kind, NO_CROSSING, WIPE) && isWithin(frames, 0, length);
            if (!isKnown || crossing == kind && crossingFrames == frames) {
                return false;
            }
            crossing = kind;
            crossingFrames = frames;
            return true;
        }

        /** Whether the style is one that the event can have and has not. */
        boolean takeStyle(int newBlend, int newLevel) {
            boolean isKnown = isWithin(newBlend, 0, DIFFERENCE) && isWithin(newLevel, 0, FULL);
            if (!isKnown || blend == newBlend && level == newLevel) {
                return false;
            }
            blend = newBlend;
            level = newLevel;
            return true;
        }

        /** The colour by the source alone, one level further down. */
        int plainColour(int k, int pixel, int levels) {
            return source.colourAt(shownAt(k), pixel, levels - 1);
        }

        /** The colour with the crossing from the event that ends where this one starts (or null). */
        int crossedColour(Event ahead, int k, int pixel, int levels) {
            if (ahead == null || crossing == NO_CROSSING || k >= crossingFrames) {
                return plainColour(k, pixel, levels);
            }
            int parts = crossingFrames + 1;
            if (crossing == WIPE) {
                boolean isWiped = pixel * parts < PIXELS * (k + 1);
                return isWiped ? plainColour(k, pixel, levels)
                        : ahead.plainColour(ahead.length + k, pixel, levels);
            }
            int old = ahead.plainColour(ahead.length + k, pixel, levels);
            return Colours.mix(old, plainColour(k, pixel, levels), FULL * (k + 1) / parts);
        }

        int fact(int what) {
            switch (what) {
                case 0:
                    return source.number;
                case 1:
                    return entry;
                case 2:
                    return skip;
                case 3:
                    return start;
                case 4:
                    return length;
                case 5:
                    return num;
                case 6:
                    return den;
                case 7:
                    return blend;
                case 8:
                    return level;
                case 9:
                    return crossing;
                default:
                    return crossingFrames;
            }
        }
    }

    /** Arithmetic on colours, for each of red, green and blue. */
    private static final class Colours {
        private Colours() {
        }

        private static int channel(int colour, int shift) {
            return colour >> shift & MAX_CHANNEL;
        }

        /** So many 256ths of the new colour, the rest of the old one. */
        static int mix(int old, int fresh, int weight) {
            int mixed = 0;
            for (int shift = 0; shift < COLOUR_BITS; shift += CHANNEL_BITS) {
                int sum = channel(old, shift) * (FULL - weight) + channel(fresh, shift) * weight;
                mixed |= (sum + FULL / 2) / FULL << shift;
            }
            return mixed;
        }

        static int blend(int kind, int below, int top) {
            int blended = 0;
            for (int shift = 0; shift < COLOUR_BITS; shift += CHANNEL_BITS) {
                blended |= blendChannel(kind, channel(below, shift), channel(top, shift)) << shift;
            }
            return blended;
        }

        private static int blendChannel(int kind, int below, int top) {
            switch (kind) {
                case ADD:
                    return Math.min(below + top, MAX_CHANNEL);
                case MULTIPLY:
                    return product(below, top);
                case SCREEN:
                    return MAX_CHANNEL - product(MAX_CHANNEL - below, MAX_CHANNEL - top);
                case DIFFERENCE:
                    return Math.abs(below - top);
                default:
                    return top;
            }
        }

        /** Half of the odd divisor, rounded down, is added to round to the nearest. */
        private static int product(int one, int other) {
            return (one * other + MAX_CHANNEL / 2) / MAX_CHANNEL;
        }
    }

    private static final class Edit {
        final Sequence sequence;
        final Timeline before;
        final Timeline after;

        Edit(Sequence sequence, Timeline before, Timeline after) {
            this.sequence = sequence;
            this.before = before;
            this.after = after;
        }
    }

    private static final class History {
        final ArrayList<Edit> done = new ArrayList<>();
        final ArrayList<Edit> undone = new ArrayList<>();

        void record(Edit edit) {
            if (done.size() >= MAX_UNDO) {
                done.remove(0);
            }
            done.add(edit);
            undone.clear();
        }

        boolean stepBack() {
            if (done.isEmpty()) {
                return false;
            }
            Edit edit = done.remove(done.size() - 1);
            edit.sequence.timeline = edit.before;
            undone.add(edit);
            return true;
        }

        boolean stepForward() {
            if (undone.isEmpty()) {
                return false;
            }
            Edit edit = undone.remove(undone.size() - 1);
            edit.sequence.timeline = edit.after;
            done.add(edit);
            return true;
        }
    }
}
