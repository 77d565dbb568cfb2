/** A test for each sentence of the document's Terms that names a boundary; dues are written out. */
public final class TermsTest {
    private static final Checks CHECKS = new Checks();

    public static void main(String[] args) {
        last512thCall();
        last512thCallAfterMuchWear();
        manuals();
        keys();
        ranks();
        pipeForEachKey();
        kinds();
        windsAndDetunes();
        windOfAPipe();
        stopsAtFirst();
        stopOnlyIfDrawn();
        shiftsOfCouplers();
        heldOrCoupled();
        waysEndBeyondTheKeys();
        atMostOneCoupler();
        noRings();
        soundsOnce();
        mutePipes();
        sumOfTheNeed();
        supplyAtFirst();
        stepAtTheSupply();
        stepsOfTheSupply11();
        stepsOfTheLeastSupply();
        stepsOfTheMostSupply();
        tableOfTheSag();
        boundsOfTheTable();
        pitches();
        pitchWithAndWithoutSag();
        offsetsOfTheTuning();
        tonesWrapAround();
        registrations();
        documentedFirst();
        CHECKS.end("TermsTest");
    }

    // ---- what an object is used for

    private static void last512thCall() {
        CHECKS.about("An object is used for at most 512 calls");
        OrganBuilder organ = Organs.withStop0();
        for (int call = 2; call <= 511; call++) {
            organ.hold(0, call % 61, true);
        }
        CHECKS.equal("the 512th call", organ.pipes(), 61);
    }

    private static void last512thCallAfterMuchWear() {
        OrganBuilder organ = Organs.withStop0();
        organ.hold(0, 60, true);
        for (int call = 3; call <= 512; call += 2) {
            CHECKS.equal("call " + call, organ.sound(50), 1);
            CHECKS.equal("call " + (call + 1), organ.repair(0), 1);
        }
    }

    // ---- manuals, keys, ranks

    private static void manuals() {
        CHECKS.about("Manuals are 0 to 2");
        for (int manual = 0; manual <= 2; manual++) {
            OrganBuilder organ = new OrganBuilder();
            organ.setStop(0, manual, 0);
            organ.draw(0, true);
            CHECKS.equal("more on " + manual, organ.more(manual, 60), 2);
            CHECKS.no("hold on " + manual, organ.hold(manual, 60, true));
            CHECKS.yes("a stop on " + manual, organ.sounds(0, 60));
            int other = manual == 2 ? 0 : 2;
            CHECKS.equal("couple from " + manual, organ.couple(manual, other, 0), 1);
            CHECKS.yes("uncouple from " + manual, organ.uncouple(manual, other));
            CHECKS.equal("couple to " + manual, organ.couple(other, manual, 0), 1);
            CHECKS.yes("uncouple to " + manual, organ.uncouple(other, manual));
        }
        for (int manual : new int[] {-1, 3}) {
            OrganBuilder organ = new OrganBuilder();
            CHECKS.outOfRange("setStop " + manual, () -> organ.setStop(0, manual, 0));
            CHECKS.outOfRange("couple from " + manual, () -> organ.couple(manual, 1, 0));
            CHECKS.outOfRange("couple to " + manual, () -> organ.couple(1, manual, 0));
            CHECKS.outOfRange("uncouple from " + manual, () -> organ.uncouple(manual, 1));
            CHECKS.outOfRange("uncouple to " + manual, () -> organ.uncouple(1, manual));
            CHECKS.outOfRange("hold " + manual, () -> organ.hold(manual, 0, true));
            CHECKS.outOfRange("more " + manual, () -> organ.more(manual, 0));
        }
    }

    private static void keys() {
        CHECKS.about("keys are 0 to 60");
        OrganBuilder organ = Organs.withStop0();
        for (int key : new int[] {0, 60}) {
            CHECKS.equal("more " + key, organ.more(0, key), key == 0 ? 7 : 2);
            CHECKS.no("hold " + key, organ.hold(0, key, true));
            CHECKS.yes("sounds " + key, organ.sounds(0, key));
            CHECKS.equal("pitch " + key, organ.pitch(0, key), key == 0 ? 0 : 6000);
            CHECKS.equal("wear " + key, organ.wear(0, key), 0);
        }
        for (int key : new int[] {-1, 61}) {
            CHECKS.outOfRange("more " + key, () -> organ.more(0, key));
            CHECKS.outOfRange("hold " + key, () -> organ.hold(0, key, true));
            CHECKS.outOfRange("let go " + key, () -> organ.hold(0, key, false));
            CHECKS.outOfRange("sounds " + key, () -> organ.sounds(0, key));
            CHECKS.outOfRange("pitch " + key, () -> organ.pitch(0, key));
            CHECKS.outOfRange("wear " + key, () -> organ.wear(0, key));
        }
        CHECKS.equal("the keys held", organ.letGo(), 2);
    }

    private static void ranks() {
        CHECKS.about("Ranks are 0 to 5");
        OrganBuilder organ = Organs.withAllRanks();
        organ.hold(0, 60, true);
        for (int rank : new int[] {0, 5}) {
            organ.setRank(rank, 1, 2, 0);
            CHECKS.yes("sounds " + rank, organ.sounds(rank, 60));
            CHECKS.equal("pitch " + rank, organ.pitch(rank, 60), 6000);
            CHECKS.equal("wear " + rank, organ.wear(rank, 60), 0);
            CHECKS.equal("repair " + rank, organ.repair(rank), 0);
            organ.setStop(11, 2, rank);
        }
        for (int rank : new int[] {-1, 6}) {
            CHECKS.outOfRange("setRank " + rank, () -> organ.setRank(rank, 1, 2, 0));
            CHECKS.outOfRange("setStop " + rank, () -> organ.setStop(11, 2, rank));
            CHECKS.outOfRange("sounds " + rank, () -> organ.sounds(rank, 60));
            CHECKS.outOfRange("pitch " + rank, () -> organ.pitch(rank, 60));
            CHECKS.outOfRange("wear " + rank, () -> organ.wear(rank, 60));
            CHECKS.outOfRange("repair " + rank, () -> organ.repair(rank));
        }
    }

    private static void pipeForEachKey() {
        CHECKS.about("a rank has a pipe for each key");
        for (int key = 0; key <= 60; key++) {
            OrganBuilder organ = Organs.withAllRanks();
            organ.hold(0, key, true);
            CHECKS.equal("pipes of the key " + key, organ.pipes(), 6);
            for (int rank = 0; rank <= 5; rank++) {
                for (int pipe = 0; pipe <= 60; pipe++) {
                    CHECKS.equal("held " + key + ", the pipe " + pipe + " of " + rank,
                            organ.sounds(rank, pipe) ? 1 : 0, pipe == key ? 1 : 0);
                }
            }
        }
        OrganBuilder full = Organs.full();
        CHECKS.equal("pipes of all keys", full.pipes(), 366);
        for (int rank = 0; rank <= 5; rank++) {
            for (int pipe = 0; pipe <= 60; pipe++) {
                CHECKS.yes("the pipe " + pipe + " of " + rank, full.sounds(rank, pipe));
            }
        }
    }

    // ---- kinds, winds, detunes

    private static void kinds() {
        CHECKS.about("A rank has a kind, 0 to 3: ..; at first 1");
        int[] dueOfKey0 = {-1200, 0, 1200, 1900};
        int[] dueOfKey60 = {4800, 6000, 7200, 7900};
        OrganBuilder organ = Organs.withAllRanks();
        organ.setSupply(1000);
        organ.hold(0, 0, true);
        organ.hold(0, 60, true);
        for (int rank = 0; rank <= 5; rank++) {
            CHECKS.equal("at first, the rank " + rank, organ.pitch(rank, 60), 6000);
            for (int kind = 0; kind <= 3; kind++) {
                organ.setRank(rank, kind, 2, 0);
                CHECKS.equal("kind " + kind + ", the key 0", organ.pitch(rank, 0), dueOfKey0[kind]);
                CHECKS.equal("kind " + kind + ", the key 60", organ.pitch(rank, 60), dueOfKey60[kind]);
            }
            int same = rank;
            CHECKS.outOfRange("kind -1", () -> organ.setRank(same, -1, 2, 0));
            CHECKS.outOfRange("kind 4", () -> organ.setRank(same, 4, 2, 0));
            CHECKS.equal("the kind 3 stays", organ.pitch(rank, 60), 7900);
        }
    }

    private static void windsAndDetunes() {
        CHECKS.about("It has a wind from 1 to 9, 2 at first, and a detune from -50 to 50, 0 at first");
        for (int rank = 0; rank <= 5; rank++) {
            OrganBuilder organ = new OrganBuilder();
            organ.setStop(0, 0, rank);
            organ.draw(0, true);
            organ.hold(0, 60, true);
            CHECKS.equal("the wind at first", organ.need(), 2);
            CHECKS.equal("the detune at first", organ.pitch(rank, 60), 6000);
            int same = rank;
            organ.setRank(rank, 1, 1, -50);
            CHECKS.equal("the wind 1", organ.need(), 1);
            CHECKS.equal("the detune -50", organ.pitch(rank, 60), 5950);
            CHECKS.outOfRange("the wind 0", () -> organ.setRank(same, 1, 0, 0));
            CHECKS.outOfRange("the detune -51", () -> organ.setRank(same, 1, 2, -51));
            CHECKS.equal("the wind stays 1", organ.need(), 1);
            CHECKS.equal("the detune stays -50", organ.pitch(rank, 60), 5950);
            organ.setRank(rank, 1, 9, 50);
            CHECKS.equal("the wind 9", organ.need(), 9);
            CHECKS.equal("the detune 50", organ.pitch(rank, 60), 6050);
            CHECKS.outOfRange("the wind 10", () -> organ.setRank(same, 1, 10, 0));
            CHECKS.outOfRange("the detune 51", () -> organ.setRank(same, 1, 2, 51));
            CHECKS.equal("the wind stays 9", organ.need(), 9);
            CHECKS.equal("the detune stays 50", organ.pitch(rank, 60), 6050);
        }
    }

    private static void windOfAPipe() {
        CHECKS.about("its rank's wind plus the quotient of 60 less k by 12, rounded down");
        int[][] leastMostQuotient = {
            {0, 0, 5}, {1, 12, 4}, {13, 24, 3}, {25, 36, 2}, {37, 48, 1}, {49, 60, 0}};
        for (int wind : new int[] {1, 2, 9}) {
            OrganBuilder organ = Organs.withStop0();
            organ.setRank(0, 1, wind, 0);
            for (int[] row : leastMostQuotient) {
                for (int key = row[0]; key <= row[1]; key++) {
                    organ.hold(0, key, true);
                    CHECKS.equal("wind " + wind + ", the key " + key, organ.need(), wind + row[2]);
                    organ.letGo();
                }
            }
        }
    }

    // ---- stops

    private static void stopsAtFirst() {
        CHECKS.about("at first the stop s is on the manual s modulo 3, with the rank s / 2, rounded down,"
                + " and is not drawn");
        int[] manuals = {0, 1, 2, 0, 1, 2, 0, 1, 2, 0, 1, 2};
        int[] ranks = {0, 0, 1, 1, 2, 2, 3, 3, 4, 4, 5, 5};
        for (int stop = 0; stop <= 11; stop++) {
            for (int manual = 0; manual <= 2; manual++) {
                OrganBuilder organ = new OrganBuilder();
                organ.hold(manual, 60, true);
                CHECKS.no("the stop " + stop, organ.draw(stop, true));
                CHECKS.equal("the stop " + stop + ", the manual " + manual, organ.pipes(),
                        manual == manuals[stop] ? 1 : 0);
                for (int rank = 0; rank <= 5; rank++) {
                    CHECKS.equal("the stop " + stop + ", the rank " + rank,
                            organ.sounds(rank, 60) ? 1 : 0,
                            manual == manuals[stop] && rank == ranks[stop] ? 1 : 0);
                }
            }
        }
        OrganBuilder organ = new OrganBuilder();
        CHECKS.outOfRange("the stop -1", () -> organ.draw(-1, true));
        CHECKS.outOfRange("the stop 12", () -> organ.draw(12, true));
    }

    private static void stopOnlyIfDrawn() {
        CHECKS.about("A stop lets the keys of a manual sound the pipes of a rank, if it is drawn");
        OrganBuilder organ = new OrganBuilder();
        for (int manual = 0; manual <= 2; manual++) {
            Organs.holdKeys(organ, manual, 0, 60);
        }
        CHECKS.equal("all keys, no stop", organ.pipes(), 0);
        CHECKS.equal("which takes no wind", organ.need(), 0);
        organ.draw(11, true);
        CHECKS.equal("all keys, one stop", organ.pipes(), 61);
        Organs.drawAll(organ);
        CHECKS.equal("all keys, all stops", organ.pipes(), 366);
        organ.letGo();
        CHECKS.equal("no key, all stops", organ.pipes(), 0);
    }

    // ---- couplers

    private static void shiftsOfCouplers() {
        CHECKS.about("is coupled on the other one, at the key plus the shift, if that is from 0 to 60");
        for (int from = 0; from <= 2; from++) {
            for (int to = 0; to <= 2; to++) {
                if (from != to) {
                    keysOverACoupler(from, to, -12, 12, 60);
                    keysOverACoupler(from, to, 0, 0, 60);
                    keysOverACoupler(from, to, 12, 0, 48);
                }
            }
        }
    }

    /** The keys from the least to the most arrive, and no other ones. */
    private static void keysOverACoupler(int from, int to, int shift, int least, int most) {
        OrganBuilder organ = new OrganBuilder();
        organ.setStop(0, to, 0);
        organ.draw(0, true);
        CHECKS.equal("the coupler", organ.couple(from, to, shift), 1);
        for (int key = 0; key <= 60; key++) {
            String what = from + " to " + to + ", shift " + shift + ", the key " + key;
            boolean arrives = key >= least && key <= most;
            organ.hold(from, key, true);
            CHECKS.equal(what, organ.pipes(), arrives ? 1 : 0);
            if (arrives) {
                CHECKS.yes(what, organ.sounds(0, key + shift));
            }
            organ.letGo();
        }
        Organs.holdKeys(organ, from, 0, 60);
        CHECKS.equal("all keys, shift " + shift, organ.pipes(), most - least + 1);
        CHECKS.equal("no key is held by that", organ.letGo(), 61);
        organ.hold(to, 30, true);
        organ.setStop(1, from, 5);
        organ.draw(1, true);
        CHECKS.equal("it does not go back", organ.pipes(), 1);
    }

    private static void heldOrCoupled() {
        CHECKS.about("a key that is held or coupled on the one manual is coupled on the other one");
        int[][] ways = {{0, 1, 2}, {0, 2, 1}, {1, 0, 2}, {1, 2, 0}, {2, 0, 1}, {2, 1, 0}};
        for (int[] way : ways) {
            OrganBuilder organ = new OrganBuilder();
            organ.setStop(0, way[2], 0);
            organ.draw(0, true);
            organ.couple(way[0], way[1], 12);
            organ.couple(way[1], way[2], 12);
            organ.hold(way[1], 0, true);
            CHECKS.yes("held on the middle one", organ.sounds(0, 12));
            organ.hold(way[0], 0, true);
            CHECKS.yes("coupled on the middle one", organ.sounds(0, 24));
            CHECKS.equal("both", organ.pipes(), 2);
            organ.uncouple(way[1], way[2]);
            CHECKS.equal("neither", organ.pipes(), 0);
        }
    }

    private static void waysEndBeyondTheKeys() {
        CHECKS.about("if that is from 0 to 60");
        OrganBuilder organ = new OrganBuilder();
        organ.setStop(0, 2, 0);
        organ.draw(0, true);
        organ.couple(0, 1, 12);
        organ.couple(1, 2, -12);
        organ.hold(0, 49, true);
        CHECKS.equal("61 on the manual between is no key", organ.pipes(), 0);
        organ.hold(0, 48, true);
        CHECKS.yes("60 on the manual between is one", organ.sounds(0, 48));
        CHECKS.equal("and the only one", organ.pipes(), 1);
        organ.letGo();
        organ.couple(0, 1, -12);
        organ.couple(1, 2, 12);
        organ.hold(0, 11, true);
        CHECKS.equal("-1 on the manual between is no key", organ.pipes(), 0);
        organ.hold(0, 12, true);
        CHECKS.yes("0 on the manual between is one", organ.sounds(0, 12));
        CHECKS.equal("and the only one again", organ.pipes(), 1);
        organ.letGo();
        organ.couple(0, 1, 12);
        organ.hold(0, 36, true);
        organ.hold(0, 37, true);
        CHECKS.yes("36 and 24 is 60", organ.sounds(0, 60));
        CHECKS.equal("37 and 24 is no key", organ.pipes(), 1);
        organ.letGo();
        organ.couple(0, 1, -12);
        organ.couple(1, 2, -12);
        organ.hold(0, 24, true);
        organ.hold(0, 23, true);
        CHECKS.yes("24 less 24 is 0", organ.sounds(0, 0));
        CHECKS.equal("23 less 24 is no key", organ.pipes(), 1);
    }

    private static void atMostOneCoupler() {
        CHECKS.about("At most one coupler goes from a manual to another one");
        OrganBuilder organ = new OrganBuilder();
        organ.setStop(0, 1, 0);
        organ.draw(0, true);
        organ.hold(0, 24, true);
        for (int shift : new int[] {-12, 0, 12, 12}) {
            CHECKS.equal("the shift " + shift, organ.couple(0, 1, shift), 1);
            CHECKS.equal("only the last shift is there", organ.pipes(), 1);
            CHECKS.yes("which is " + shift, organ.sounds(0, 24 + shift));
        }
        CHECKS.yes("it is removed whole", organ.uncouple(0, 1));
        CHECKS.no("and only once", organ.uncouple(0, 1));
        CHECKS.equal("none is left", organ.pipes(), 0);
    }

    private static void noRings() {
        CHECKS.about("No coupler can be added by which one would come from a manual over couplers to"
                + " the same one");
        int[][] orders = {{0, 1, 2}, {0, 2, 1}, {1, 0, 2}, {1, 2, 0}, {2, 0, 1}, {2, 1, 0}};
        for (int[] order : orders) {
            int a = order[0];
            int b = order[1];
            int c = order[2];
            OrganBuilder organ = new OrganBuilder();
            CHECKS.equal("first", organ.couple(a, b, 0), 1);
            CHECKS.wrongState("a ring of two", () -> organ.couple(b, a, 0));
            CHECKS.equal("second", organ.couple(b, c, 0), 2);
            CHECKS.wrongState("a ring of three", () -> organ.couple(c, a, 12));
            CHECKS.wrongState("another ring of two", () -> organ.couple(c, b, -12));
            CHECKS.equal("third, two ways but no ring", organ.couple(a, c, 0), 3);
            CHECKS.wrongState("full: " + b + " to " + a, () -> organ.couple(b, a, 0));
            CHECKS.wrongState("full: " + c + " to " + a, () -> organ.couple(c, a, 0));
            CHECKS.wrongState("full: " + c + " to " + b, () -> organ.couple(c, b, 0));
            CHECKS.equal("full: a changed shift", organ.couple(a, b, 12), 3);
            CHECKS.yes("one less", organ.uncouple(a, b));
            CHECKS.equal("the other way is no ring then", organ.couple(b, a, 0), 3);
            CHECKS.wrongState("that one is", () -> organ.couple(c, b, 0));
        }
    }

    // ---- which pipes sound

    private static void soundsOnce() {
        CHECKS.about("it sounds once, however many ways lead to it");
        OrganBuilder organ = new OrganBuilder();
        for (int stop = 0; stop <= 11; stop++) {
            organ.setStop(stop, stop % 3, 0);
        }
        Organs.drawAll(organ);
        organ.couple(0, 1, 12);
        organ.couple(1, 2, -12);
        organ.couple(0, 2, 0);
        organ.hold(0, 20, true);
        organ.hold(2, 20, true);
        organ.hold(1, 32, true);
        organ.hold(0, 32, true);
        CHECKS.equal("the keys 20, 32, 44", organ.pipes(), 3);
        CHECKS.equal("the need of 20, 32, 44", organ.need(), 5 + 4 + 3);
        CHECKS.equal("sound", organ.sound(3), 3);
        for (int key : new int[] {20, 32, 44}) {
            CHECKS.equal("it wears once, the key " + key, organ.wear(0, key), 3);
        }
        organ.hold(0, 20, false);
        CHECKS.equal("one way less", organ.pipes(), 3);
        organ.hold(2, 20, false);
        organ.hold(1, 32, false);
        CHECKS.equal("the keys 32 and 44 by the manual 0 alone", organ.pipes(), 2);
    }

    private static void mutePipes() {
        CHECKS.about("A pipe whose wear is 50 or more is mute: it does not sound, and takes no wind");
        int[][] worn = {{49, 0, 49}, {50, 0, 50}, {49, 1, 50}, {49, 2, 51}, {49, 50, 99}, {1, 50, 51}};
        for (int[] row : worn) {
            OrganBuilder organ = Organs.withStop0();
            organ.hold(0, 0, true);
            organ.sound(row[0]);
            if (row[1] > 0) {
                organ.sound(row[1]);
            }
            int sounding = row[2] < 50 ? 1 : 0;
            CHECKS.equal("the wear", organ.wear(0, 0), row[2]);
            CHECKS.equal("pipes at the wear " + row[2], organ.pipes(), sounding);
            CHECKS.equal("sounds at the wear " + row[2], organ.sounds(0, 0) ? 1 : 0, sounding);
            CHECKS.equal("need at the wear " + row[2], organ.need(), 7 * sounding);
            CHECKS.equal("more by the wear " + row[2], organ.more(0, 12), 6);
            CHECKS.equal("sound at the wear " + row[2], organ.sound(1), sounding);
            organ.letGo();
            CHECKS.equal("more after that", organ.more(0, 0), 0);
        }
    }

    // ---- wind and sag

    private static void sumOfTheNeed() {
        CHECKS.about("The need is the sum of the wind of all pipes that sound");
        CHECKS.equal("none", new OrganBuilder().need(), 0);
        OrganBuilder full = Organs.full();
        CHECKS.equal("all, at first", full.need(), 6 * (61 * 2 + 125));
        for (int rank = 0; rank <= 5; rank++) {
            full.setRank(rank, 1, 9, 0);
        }
        CHECKS.equal("all, the most wind", full.need(), 6 * (61 * 9 + 125));
        full.setSupply(1000);
        CHECKS.equal("the step of the greatest need", full.sagStep(), 10);
        for (int rank = 0; rank <= 5; rank++) {
            full.setRank(rank, 1, 1, 0);
        }
        CHECKS.equal("all, the least wind", full.need(), 6 * (61 + 125));
        for (int need = 0; need <= 224; need++) {
            CHECKS.equal("one more", Organs.ofNeed(need).need(), need);
        }
    }

    private static void supplyAtFirst() {
        CHECKS.about("The supply is 100 at first");
        int[][] needAndStep = {{99, 0}, {100, 0}, {101, 1}, {109, 1}, {110, 2}, {111, 2}, {119, 2},
            {120, 3}, {189, 9}, {190, 10}, {191, 10}, {199, 10}, {200, 10}, {201, 10}};
        for (int[] row : needAndStep) {
            OrganBuilder organ = Organs.ofNeed(row[0]);
            CHECKS.equal("the need " + row[0], organ.sagStep(), row[1]);
            CHECKS.equal("the answer of setSupply", organ.setSupply(10), 100);
        }
    }

    private static void stepAtTheSupply() {
        CHECKS.about("The step of the sag is 0 if the need is at most the supply");
        CHECKS.equal("nothing sounds", new OrganBuilder().sagStep(), 0);
        for (int supply : new int[] {10, 11, 50, 99, 100, 101, 200}) {
            CHECKS.equal("one less than " + supply, stepOf(supply - 1, supply), 0);
            CHECKS.equal("just " + supply, stepOf(supply, supply), 0);
            CHECKS.equal("one more than " + supply, stepOf(supply + 1, supply), supply == 10 ? 2 : 1);
        }
    }

    private static int stepOf(int need, int supply) {
        OrganBuilder organ = Organs.ofNeed(need);
        organ.setSupply(supply);
        return organ.sagStep();
    }

    private static void stepsOfTheSupply11() {
        CHECKS.about("1 plus the quotient of 10 times the excess by the supply, rounded down, but at"
                + " most 10");
        int[] steps = {0, 1, 2, 3, 4, 5, 6, 7, 8, 9, 10, 10, 10};
        for (int excess = 0; excess < steps.length; excess++) {
            CHECKS.equal("the supply 11, the excess " + excess, stepOf(11 + excess, 11), steps[excess]);
        }
        CHECKS.equal("the supply 20, the excess 1", stepOf(21, 20), 1);
        CHECKS.equal("the supply 20, the excess 2", stepOf(22, 20), 2);
        CHECKS.equal("the supply 20, the excess 3", stepOf(23, 20), 2);
        CHECKS.equal("the supply 20, the excess 17", stepOf(37, 20), 9);
        CHECKS.equal("the supply 20, the excess 18", stepOf(38, 20), 10);
        CHECKS.equal("the supply 20, the excess 20", stepOf(40, 20), 10);
    }

    private static void stepsOfTheLeastSupply() {
        int[] steps = {0, 2, 3, 4, 5, 6, 7, 8, 9, 10, 10, 10};
        for (int excess = 0; excess < steps.length; excess++) {
            CHECKS.equal("the supply 10, the excess " + excess, stepOf(10 + excess, 10), steps[excess]);
        }
        CHECKS.equal("the supply 10, a great need", stepOf(224, 10), 10);
    }

    private static void stepsOfTheMostSupply() {
        OrganBuilder organ = new OrganBuilder();
        int[] winds = {9, 3, 9, 1, 1, 1};
        int[] manuals = {0, 0, 1, 2, 2, 2};
        for (int stop = 0; stop <= 5; stop++) {
            organ.setStop(stop, manuals[stop], stop);
            organ.setRank(stop, 1, winds[stop], 0);
            organ.draw(stop, true);
        }
        Organs.holdKeys(organ, 0, 0, 60);
        Organs.holdKeys(organ, 1, 59, 60);
        organ.setSupply(1000);
        CHECKS.equal("the need", organ.need(), 674 + 308 + 18);
        CHECKS.equal("1000 of 1000", organ.sagStep(), 0);
        organ.setSupply(999);
        CHECKS.equal("1000 of 999", organ.sagStep(), 1);
        organ.setSupply(1000);
        organ.draw(4, false);
        organ.draw(5, false);
        organ.hold(2, 60, true);
        CHECKS.equal("1001 of 1000", organ.sagStep(), 1);
        organ.hold(2, 60, false);
        organ.hold(1, 58, true);
        Organs.holdKeys(organ, 1, 49, 57);
        CHECKS.equal("the need then", organ.need(), 1000 + 90);
        CHECKS.equal("1090 of 1000", organ.sagStep(), 1);
        Organs.holdKeys(organ, 2, 52, 60);
        CHECKS.equal("1099 of 1000", organ.sagStep(), 1);
        organ.hold(2, 51, true);
        CHECKS.equal("1100 of 1000", organ.sagStep(), 2);
    }

    private static void tableOfTheSag() {
        CHECKS.about("a fall for each step from 1 to 10, in hundredths of a half tone; at first 5 times"
                + " the step");
        int[] falls = {0, 5, 10, 15, 20, 25, 30, 35, 40, 45, 50, 50, 50};
        for (int excess = 0; excess < falls.length; excess++) {
            OrganBuilder organ = Organs.ofNeed(11 + excess);
            organ.setSupply(11);
            CHECKS.equal("pitch at the excess " + excess, organ.pitch(0, 60), 6000 - falls[excess]);
        }
        OrganBuilder organ = new OrganBuilder();
        for (int step = 1; step <= 10; step++) {
            CHECKS.equal("the answer of setSag " + step, organ.setSag(step, 0), falls[step]);
        }
    }

    private static void boundsOfTheTable() {
        for (int step = 1; step <= 10; step++) {
            OrganBuilder organ = Organs.ofNeed(11 + step);
            organ.setSupply(11);
            for (int other = 1; other <= 10; other++) {
                organ.setSag(other, 70 + other);
            }
            organ.setSag(step, 100);
            CHECKS.equal("the fall 100 of the step " + step, organ.pitch(0, 60), 5900);
            organ.setSag(step, 0);
            CHECKS.equal("the fall 0 of the step " + step, organ.pitch(0, 60), 6000);
        }
    }

    // ---- pitch and tuning

    private static void pitches() {
        CHECKS.about("The pitch of a pipe that sounds");
        OrganBuilder organ = Organs.withStop0();
        organ.hold(0, 0, true);
        organ.hold(0, 60, true);
        organ.setRank(0, 0, 2, -50);
        organ.tune(0, -50);
        organ.setSag(1, 100);
        CHECKS.equal("the lowest without sag", organ.pitch(0, 0), -1300);
        organ.setRank(0, 0, 3, -50);
        organ.setSupply(10);
        CHECKS.equal("the step", organ.sagStep(), 2);
        organ.setSag(2, 100);
        CHECKS.equal("the lowest of all", organ.pitch(0, 0), -1400);
        CHECKS.equal("is that of lowest()", organ.lowest(), -1400);
        organ.hold(0, 0, false);
        organ.setRank(0, 3, 9, 50);
        organ.tune(0, 50);
        CHECKS.equal("the highest of all", organ.pitch(0, 60), 8000);
        CHECKS.equal("is that of lowest(), too", organ.lowest(), 8000);
        CHECKS.wrongState("a pipe that does not sound", () -> organ.pitch(0, 0));
    }

    private static void pitchWithAndWithoutSag() {
        CHECKS.about("less the fall of the step of the sag (nothing for the step 0)");
        OrganBuilder organ = Organs.ofNeed(100);
        for (int step = 1; step <= 10; step++) {
            organ.setSag(step, 100);
        }
        CHECKS.equal("the need is the supply", organ.pitch(0, 60), 6000);
        organ.setSupply(99);
        CHECKS.equal("the need is one more", organ.pitch(0, 60), 5900);
        organ.setSupply(1000);
        CHECKS.equal("much supply", organ.pitch(0, 60), 6000);
        organ.setSupply(10);
        CHECKS.equal("little supply", organ.pitch(0, 60), 5900);
        CHECKS.equal("every pipe falls as much", organ.pitch(0, 50), 4900);
        CHECKS.equal("of every rank", organ.pitch(2, 60), 5900);
    }

    private static void offsetsOfTheTuning() {
        CHECKS.about("The tuning has an offset from -50 to 50 for each remainder of a key by 12, 0 at"
                + " first");
        for (int tone = 0; tone <= 11; tone++) {
            OrganBuilder organ = Organs.withStop0();
            organ.setSupply(1000);
            Organs.holdKeys(organ, 0, 0, 60);
            CHECKS.equal("at first", organ.pitch(0, tone), 100 * tone);
            CHECKS.equal("the offset 50", organ.tune(tone, 50), 0);
            tonesOf(organ, tone, 50);
            CHECKS.equal("the offset -50", organ.tune(tone, -50), 50);
            tonesOf(organ, tone, -50);
            int same = tone;
            CHECKS.outOfRange("the offset 51", () -> organ.tune(same, 51));
            CHECKS.outOfRange("the offset -51", () -> organ.tune(same, -51));
            tonesOf(organ, tone, -50);
        }
    }

    /** Just the keys of the tone are offset. */
    private static void tonesOf(OrganBuilder organ, int tone, int offset) {
        for (int key = 0; key <= 60; key++) {
            boolean tuned = key == tone || key == tone + 12 || key == tone + 24 || key == tone + 36
                    || key == tone + 48 || key == tone + 60;
            CHECKS.equal("the tone " + tone + ", the key " + key, organ.pitch(0, key),
                    100 * key + (tuned ? offset : 0));
        }
    }

    private static void tonesWrapAround() {
        CHECKS.about("the offset of the tuning for the key modulo 12");
        OrganBuilder organ = Organs.withStop0();
        for (int tone = 0; tone <= 11; tone++) {
            organ.tune(tone, tone + 1);
        }
        int[] keys = {0, 11, 12, 23, 24, 35, 36, 47, 48, 59, 60};
        int[] offsets = {1, 12, 1, 12, 1, 12, 1, 12, 1, 12, 1};
        for (int kind = 0; kind <= 3; kind++) {
            int[] halfTones = {-12, 0, 12, 19};
            organ.setRank(0, kind, 1, 0);
            for (int i = 0; i < keys.length; i++) {
                organ.hold(0, keys[i], true);
                CHECKS.equal("kind " + kind + ", the key " + keys[i], organ.pitch(0, keys[i]),
                        100 * (keys[i] + halfTones[kind]) + offsets[i]);
                organ.letGo();
            }
        }
        CHECKS.outOfRange("the tone -1", () -> organ.tune(-1, 0));
        CHECKS.outOfRange("the tone 12", () -> organ.tune(12, 0));
    }

    // ---- registrations and exceptions

    private static void registrations() {
        CHECKS.about("Registrations are 0 to 7: each keeps which stops are drawn, none at first");
        for (int registration = 0; registration <= 7; registration++) {
            OrganBuilder organ = new OrganBuilder();
            CHECKS.equal("none of none", organ.recall(registration), 0);
            Organs.drawAll(organ);
            CHECKS.equal("none of all", organ.recall(registration), 12);
            for (int stop = 0; stop <= 11; stop++) {
                CHECKS.no("the stop " + stop, organ.draw(stop, false));
            }
        }
        OrganBuilder organ = new OrganBuilder();
        for (int registration = 0; registration <= 7; registration++) {
            CHECKS.equal("one more", organ.keep(registration), registration);
            organ.draw(registration, true);
        }
        for (int registration = 7; registration >= 0; registration--) {
            CHECKS.equal("one less", organ.recall(registration), 1);
        }
        for (int registration : new int[] {-1, 8}) {
            CHECKS.outOfRange("keep " + registration, () -> organ.keep(registration));
            CHECKS.outOfRange("recall " + registration, () -> organ.recall(registration));
        }
    }

    private static void documentedFirst() {
        CHECKS.about("If several exceptions apply, the one that is documented first is thrown");
        OrganBuilder organ = Organs.withStop0();
        organ.couple(0, 1, 0);
        CHECKS.outOfRange("setStop, a drawn stop and a manual", () -> organ.setStop(0, 3, 0));
        CHECKS.outOfRange("setStop, a drawn stop and a rank", () -> organ.setStop(0, 0, 6));
        CHECKS.outOfRange("setStop, a drawn stop and both", () -> organ.setStop(0, -1, -1));
        CHECKS.wrongState("setStop, a drawn stop alone", () -> organ.setStop(0, 2, 5));
        CHECKS.outOfRange("couple, a ring and a shift", () -> organ.couple(1, 0, 1));
        CHECKS.outOfRange("couple, the same and a ring", () -> organ.couple(0, 0, 0));
        CHECKS.outOfRange("couple, the same and beyond", () -> organ.couple(3, 3, 0));
        CHECKS.wrongState("couple, a ring alone", () -> organ.couple(1, 0, 12));
        CHECKS.outOfRange("pitch, a silent rank beyond", () -> organ.pitch(6, 0));
        CHECKS.outOfRange("pitch, a silent key beyond", () -> organ.pitch(0, 61));
        CHECKS.wrongState("pitch, a silent pipe alone", () -> organ.pitch(0, 60));
    }
}
