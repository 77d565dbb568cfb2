import java.util.ArrayList;
import java.util.List;

/**
 * All that an organ shows, in views of at most 370 calls each, so that an object's 512 calls
 * hold a view and what went ahead of it. A view may change the organ: it is the last that is
 * asked of it.
 */
enum Views {
    SOUNDING, PITCHES, WEARS, MORES, SETTINGS, HELD, REGISTRATIONS, STOPS_AND_RANKS;

    /** Stands where pitch throws, because the pipe does not sound. */
    private static final long SILENT = Long.MIN_VALUE;

    List<Long> of(OrganBuilder organ) {
        List<Long> shown = new ArrayList<>();
        switch (this) {
            case SOUNDING -> addSounding(organ, shown);
            case PITCHES -> addPitches(organ, shown);
            case WEARS -> addWears(organ, shown);
            case MORES -> addMores(organ, shown);
            case SETTINGS -> addSettings(organ, shown);
            case HELD -> addHeld(organ, shown);
            case REGISTRATIONS -> addRegistrations(organ, shown);
            case STOPS_AND_RANKS -> addStopsAndRanks(organ, shown);
        }
        return shown;
    }

    private static void add(List<Long> shown, long answer) {
        shown.add(answer);
    }

    private static void add(List<Long> shown, boolean answer) {
        shown.add(answer ? 1L : 0L);
    }

    private static void addSounding(OrganBuilder organ, List<Long> shown) {
        add(shown, organ.pipes());
        add(shown, organ.need());
        add(shown, organ.sagStep());
        add(shown, organ.lowest());
        for (int rank = 0; rank <= 5; rank++) {
            for (int key = 0; key <= 60; key++) {
                add(shown, organ.sounds(rank, key));
            }
        }
    }

    private static void addPitches(OrganBuilder organ, List<Long> shown) {
        for (int rank = 0; rank <= 5; rank++) {
            for (int key = 0; key <= 60; key++) {
                add(shown, pitchOrSilent(organ, rank, key));
            }
        }
    }

    private static long pitchOrSilent(OrganBuilder organ, int rank, int key) {
        try {
            return organ.pitch(rank, key);
        } catch (IllegalStateException silent) {
            return SILENT;
        }
    }

    private static void addWears(OrganBuilder organ, List<Long> shown) {
        for (int rank = 0; rank <= 5; rank++) {
            for (int key = 0; key <= 60; key++) {
                add(shown, organ.wear(rank, key));
            }
        }
    }

    private static void addMores(OrganBuilder organ, List<Long> shown) {
        for (int manual = 0; manual <= 2; manual++) {
            for (int key = 0; key <= 60; key++) {
                add(shown, organ.more(manual, key));
            }
        }
    }

    private static void addSettings(OrganBuilder organ, List<Long> shown) {
        for (int from = 0; from <= 2; from++) {
            for (int to = 0; to <= 2; to++) {
                add(shown, organ.uncouple(from, to));
            }
        }
        add(shown, organ.setSupply(10));
        for (int step = 1; step <= 10; step++) {
            add(shown, organ.setSag(step, 0));
        }
        for (int tone = 0; tone <= 11; tone++) {
            add(shown, organ.tune(tone, 0));
        }
        for (int stop = 0; stop <= 11; stop++) {
            add(shown, organ.draw(stop, false));
        }
    }

    private static void addHeld(OrganBuilder organ, List<Long> shown) {
        for (int manual = 0; manual <= 2; manual++) {
            for (int key = 0; key <= 60; key++) {
                add(shown, organ.hold(manual, key, false));
            }
        }
    }

    private static void addRegistrations(OrganBuilder organ, List<Long> shown) {
        for (int registration = 0; registration <= 7; registration++) {
            add(shown, organ.recall(registration));
            for (int stop = 0; stop <= 11; stop++) {
                add(shown, organ.draw(stop, false));
            }
        }
    }

    /** What stops and ranks are set to, drawn or not: one stop at a time on an organ made plain. */
    private static void addStopsAndRanks(OrganBuilder organ, List<Long> shown) {
        makePlain(organ);
        for (int stop = 0; stop <= 11; stop++) {
            organ.draw(stop, true);
            for (int rank = 0; rank <= 5; rank++) {
                for (int manual = 0; manual <= 2; manual++) {
                    add(shown, organ.sounds(rank, manual));
                }
            }
            organ.draw(stop, false);
        }
        for (int rank = 0; rank <= 5; rank++) {
            organ.setStop(0, 0, rank);
            organ.draw(0, true);
            add(shown, organ.pitch(rank, 0));
            add(shown, organ.need());
            organ.draw(0, false);
        }
    }

    /** No stop is drawn, no manual coupled, no pipe mute, and each manual's own number is its key. */
    private static void makePlain(OrganBuilder organ) {
        for (int stop = 0; stop <= 11; stop++) {
            organ.draw(stop, false);
        }
        for (int from = 0; from <= 2; from++) {
            for (int to = 0; to <= 2; to++) {
                organ.uncouple(from, to);
            }
        }
        for (int rank = 0; rank <= 5; rank++) {
            organ.repair(rank);
        }
        organ.letGo();
        for (int manual = 0; manual <= 2; manual++) {
            organ.hold(manual, manual, true);
        }
    }
}
