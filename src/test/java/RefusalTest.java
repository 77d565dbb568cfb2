import java.util.ArrayList;
import java.util.EnumMap;
import java.util.List;
import java.util.Map;

/**
 * "A method that throws an exception changes nothing": each refused call, on a new organ, on one
 * that is played, and on a full one; all that the organ shows after it is what it shows without it.
 */
public final class RefusalTest {
    private static final Checks CHECKS = new Checks();
    private static final int[] NO_MANUALS = {-1, 3, Integer.MIN_VALUE, Integer.MAX_VALUE};
    private static final int[] NO_KEYS = {-1, 61, 64, Integer.MIN_VALUE, Integer.MAX_VALUE};
    private static final int[] NO_RANKS = {-1, 6, Integer.MIN_VALUE, Integer.MAX_VALUE};
    private static final int[] NO_KINDS = {-1, 4, Integer.MIN_VALUE, Integer.MAX_VALUE};
    private static final int[] NO_WINDS = {0, 10, Integer.MIN_VALUE, Integer.MAX_VALUE};
    private static final int[] NO_HUNDREDTHS = {-51, 51, Integer.MIN_VALUE, Integer.MAX_VALUE};
    private static final int[] NO_STOPS = {-1, 12, 32, Integer.MIN_VALUE, Integer.MAX_VALUE};
    private static final int[] NO_SHIFTS = {-24, -13, -11, -1, 1, 11, 13, 24,
        Integer.MIN_VALUE, Integer.MAX_VALUE};
    private static final int[] NO_SUPPLIES = {9, 1001, 0, Integer.MIN_VALUE, Integer.MAX_VALUE};
    private static final int[] NO_STEPS = {0, 11, -1, Integer.MIN_VALUE, Integer.MAX_VALUE};
    private static final int[] NO_FALLS = {-1, 101, Integer.MIN_VALUE, Integer.MAX_VALUE};
    private static final int[] NO_TONES = {-1, 12, Integer.MIN_VALUE, Integer.MAX_VALUE};
    private static final int[] NO_REGISTRATIONS = {-1, 8, Integer.MIN_VALUE, Integer.MAX_VALUE};
    private static final int[] NO_TIMES = {0, 51, -1, Integer.MIN_VALUE, Integer.MAX_VALUE};

    private interface Call {
        void on(OrganBuilder organ);
    }

    private interface Maker {
        OrganBuilder make();
    }

    private record Refusal(String what, Class<? extends RuntimeException> due, Call call) {
    }

    private final List<Refusal> refusals = new ArrayList<>();

    public static void main(String[] args) {
        CHECKS.about("A method that throws an exception changes nothing");
        RefusalTest ranges = new RefusalTest();
        ranges.addRangesOfBuilding();
        ranges.addRangesOfPlaying();
        ranges.addRangesOfAsking();
        ranges.holdOn("a new organ", OrganBuilder::new);
        ranges.holdOn("a played organ", RefusalTest::played);
        ranges.holdOn("a full organ", Organs::full);
        RefusalTest states = new RefusalTest();
        states.addStatesOfThePlayed();
        states.holdOn("a played organ", RefusalTest::played);
        CHECKS.end("RefusalTest");
    }

    /** Nothing that can be set is as it is at first, so that what is reset by a refused call shows. */
    private static OrganBuilder played() {
        OrganBuilder organ = new OrganBuilder();
        for (int rank = 0; rank <= 5; rank++) {
            organ.setRank(rank, new int[] {0, 2, 3}[rank % 3], 9 - rank, 10 * rank - 37);
        }
        for (int stop = 0; stop <= 11; stop++) {
            organ.setStop(stop, (stop + 1) % 3, (stop / 2 + 1) % 6);
        }
        organ.couple(2, 1, 12);
        organ.couple(1, 0, -12);
        organ.setSupply(55);
        for (int step = 1; step <= 10; step++) {
            organ.setSag(step, 100 - 7 * step);
        }
        for (int tone = 0; tone <= 11; tone++) {
            organ.tune(tone, 4 * tone - 30);
        }
        for (int registration = 0; registration <= 7; registration++) {
            organ.draw(registration + 2, true);
            organ.keep(registration);
        }
        organ.draw(5, false);
        organ.draw(8, false);
        organ.hold(0, 0, true);
        organ.hold(1, 60, true);
        organ.sound(50);
        organ.hold(2, 20, true);
        organ.hold(0, 31, true);
        organ.sound(49);
        organ.hold(2, 60, true);
        organ.hold(1, 33, true);
        return organ;
    }

    private void refuseRange(String what, Call call) {
        refusals.add(new Refusal(what, IllegalArgumentException.class, call));
    }

    private void refuseState(String what, Call call) {
        refusals.add(new Refusal(what, IllegalStateException.class, call));
    }

    private void holdOn(String organs, Maker maker) {
        Map<Views, List<Long>> due = new EnumMap<>(Views.class);
        for (Views view : Views.values()) {
            due.put(view, view.of(maker.make()));
        }
        for (Refusal refusal : refusals) {
            for (Views view : Views.values()) {
                OrganBuilder organ = maker.make();
                String what = refusal.what() + " on " + organs;
                CHECKS.refuses(what, refusal.due(), () -> refusal.call().on(organ));
                CHECKS.yes(what + " shows in " + view + " what is", view.of(organ).equals(due.get(view)));
            }
        }
    }

    private void addRangesOfBuilding() {
        for (int rank : NO_RANKS) {
            refuseRange("setRank, rank " + rank, organ -> organ.setRank(rank, 2, 5, 1));
            refuseRange("setStop, rank " + rank, organ -> organ.setStop(0, 1, rank));
        }
        for (int kind : NO_KINDS) {
            refuseRange("setRank, kind " + kind, organ -> organ.setRank(0, kind, 5, 1));
        }
        for (int wind : NO_WINDS) {
            refuseRange("setRank, wind " + wind, organ -> organ.setRank(0, 2, wind, 1));
        }
        for (int detune : NO_HUNDREDTHS) {
            refuseRange("setRank, detune " + detune, organ -> organ.setRank(0, 2, 5, detune));
            refuseRange("tune, offset " + detune, organ -> organ.tune(0, detune));
        }
        for (int stop : NO_STOPS) {
            refuseRange("setStop, stop " + stop, organ -> organ.setStop(stop, 1, 1));
        }
        for (int manual : NO_MANUALS) {
            refuseRange("setStop, manual " + manual, organ -> organ.setStop(0, manual, 1));
            refuseRange("couple, from " + manual, organ -> organ.couple(manual, 0, 0));
            refuseRange("couple, to " + manual, organ -> organ.couple(2, manual, 0));
            refuseRange("uncouple, from " + manual, organ -> organ.uncouple(manual, 1));
            refuseRange("uncouple, to " + manual, organ -> organ.uncouple(2, manual));
        }
        for (int manual = 0; manual <= 2; manual++) {
            int same = manual;
            refuseRange("couple, both " + manual, organ -> organ.couple(same, same, 0));
        }
        for (int shift : NO_SHIFTS) {
            refuseRange("couple, shift " + shift, organ -> organ.couple(2, 1, shift));
            refuseRange("couple, a new one, shift " + shift, organ -> organ.couple(2, 0, shift));
        }
        for (int supply : NO_SUPPLIES) {
            refuseRange("setSupply " + supply, organ -> organ.setSupply(supply));
        }
        for (int step : NO_STEPS) {
            refuseRange("setSag, step " + step, organ -> organ.setSag(step, 50));
        }
        for (int fall : NO_FALLS) {
            refuseRange("setSag, fall " + fall, organ -> organ.setSag(1, fall));
            refuseRange("setSag, fall " + fall, organ -> organ.setSag(10, fall));
        }
        for (int tone : NO_TONES) {
            refuseRange("tune, tone " + tone, organ -> organ.tune(tone, 1));
        }
    }

    private void addRangesOfPlaying() {
        for (boolean on : new boolean[] {true, false}) {
            for (int stop : NO_STOPS) {
                refuseRange("draw " + on + ", stop " + stop, organ -> organ.draw(stop, on));
            }
            for (int manual : NO_MANUALS) {
                refuseRange("hold " + on + ", manual " + manual, organ -> organ.hold(manual, 0, on));
            }
            for (int key : NO_KEYS) {
                refuseRange("hold " + on + ", key " + key, organ -> organ.hold(0, key, on));
            }
        }
        for (int registration : NO_REGISTRATIONS) {
            refuseRange("keep " + registration, organ -> organ.keep(registration));
            refuseRange("recall " + registration, organ -> organ.recall(registration));
        }
        for (int times : NO_TIMES) {
            refuseRange("sound " + times, organ -> organ.sound(times));
        }
        for (int rank : NO_RANKS) {
            refuseRange("repair " + rank, organ -> organ.repair(rank));
        }
    }

    private void addRangesOfAsking() {
        for (int rank : NO_RANKS) {
            refuseRange("sounds, rank " + rank, organ -> organ.sounds(rank, 0));
            refuseRange("pitch, rank " + rank, organ -> organ.pitch(rank, 0));
            refuseRange("wear, rank " + rank, organ -> organ.wear(rank, 0));
        }
        for (int key : NO_KEYS) {
            refuseRange("sounds, key " + key, organ -> organ.sounds(0, key));
            refuseRange("pitch, key " + key, organ -> organ.pitch(0, key));
            refuseRange("wear, key " + key, organ -> organ.wear(0, key));
            refuseRange("more, key " + key, organ -> organ.more(0, key));
        }
        for (int manual : NO_MANUALS) {
            refuseRange("more, manual " + manual, organ -> organ.more(manual, 0));
        }
    }

    /** The played organ has the couplers 2 to 1 and 1 to 0, and the stop 3 is drawn. */
    private void addStatesOfThePlayed() {
        refuseState("setStop, drawn", organ -> organ.setStop(3, 2, 5));
        refuseState("setStop, drawn, to what it is", organ -> organ.setStop(3, 1, 2));
        for (int shift : new int[] {-12, 0, 12}) {
            refuseState("couple, a ring of two", organ -> organ.couple(1, 2, shift));
            refuseState("couple, another one", organ -> organ.couple(0, 1, shift));
            refuseState("couple, a ring of three", organ -> organ.couple(0, 2, shift));
        }
        refuseState("pitch, no key reaches the pipe", organ -> organ.pitch(4, 59));
        refuseRange("setStop, drawn and out of range", organ -> organ.setStop(3, 3, 2));
        refuseRange("couple, a ring and no shift", organ -> organ.couple(0, 2, 5));
    }
}
