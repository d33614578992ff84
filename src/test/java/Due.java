/** Collects the answers that are not the ones that are due. */
final class Due {
    private int wrong = 0;

    void is(String call, int got, int want) {
        if (got != want) {
            tell(call, Integer.toString(got), Integer.toString(want));
        }
    }

    void is(String call, String got, String want) {
        if (!got.equals(want)) {
            tell(call, got, want);
        }
    }

    void yes(String call, boolean got) {
        if (!got) {
            tell(call, "false", "true");
        }
    }

    void no(String call, boolean got) {
        if (got) {
            tell(call, "true", "false");
        }
    }

    void throwsA(String call, Class<? extends RuntimeException> kind, Runnable run) {
        try {
            run.run();
            tell(call, "nothing thrown", kind.getSimpleName());
        } catch (RuntimeException e) {
            if (e.getClass() != kind) {
                tell(call, e.toString(), kind.getSimpleName());
            }
        }
    }

    /** A track's events, each as source.entry.skip.start.length. */
    static String track(CuttingRoom room, int sequence, int track) {
        StringBuilder text = new StringBuilder();
        int events = room.event(sequence, track, CuttingRoom.NONE, 0);
        for (int i = 0; i < events; i++) {
            text.append(i == 0 ? "" : " ");
            for (int what = 0; what <= 4; what++) {
                text.append(what == 0 ? "" : ".").append(room.event(sequence, track, i, what));
            }
        }
        return text.toString();
    }

    /** An event's facts 5 to 10: num.den.blend.level.kind.frames. */
    static String looks(CuttingRoom room, int sequence, int track, int i) {
        StringBuilder text = new StringBuilder();
        for (int what = 5; what <= 10; what++) {
            text.append(what == 5 ? "" : ".").append(room.event(sequence, track, i, what));
        }
        return text.toString();
    }

    /** Picks and overwrites; the picked event has speed 1. */
    static boolean lay(CuttingRoom room, int source, int entry, int length, int... place) {
        room.pick(source, entry, length, 1, 1);
        return room.overwrite(place[0], place[1], place[2]);
    }

    void end() {
        System.out.println(wrong == 0 ? "all answers are as due" : wrong + " answers are not as due");
        if (wrong != 0) {
            System.exit(1);
        }
    }

    private void tell(String call, String got, String want) {
        wrong++;
        System.out.println(call + " answered " + got + ", due is " + want);
    }
}
