/** Calls that are refused: what they throw, and what is as it was after them. */
final class Refused {
    private Refused() {
    }

    /** The call throws, and nothing has changed. */
    static void andAllStays(String name, Class<? extends RuntimeException> want, Story before,
            Story call) {
        thrown(name, want, before, call);
        Probe.alike(name + ": all stays", before, before.then(swallowed(call)));
    }

    /** The call throws, and nothing has changed but that the corners wait no more. */
    static void andCornersGo(String name, Class<? extends RuntimeException> want, Story before,
            Story call, int... corners) {
        Story offered = before.then(Rooms.offered(corners));
        thrown(name, want, offered, call);
        Probe.alike(name + ": only corners go", before, offered.then(swallowed(call)));
    }

    private static void thrown(String name, Class<? extends RuntimeException> want, Story before,
            Story call) {
        LeatherRoom room = before.told();
        Check.refused(name, want, () -> {
            call.tell(room);
            return 0;
        });
    }

    private static Story swallowed(Story call) {
        return room -> Check.outcome(() -> {
            call.tell(room);
            return 0;
        });
    }
}
