/**
 * The boundaries of each promise: the value just inside and the one just outside, the empty and
 * the full organ, the call made twice. What refused calls leave behind stands in RefusalTest.
 */
public final class EdgeTest {
    private static final Checks CHECKS = new Checks();

    public static void main(String[] args) {
        promise1Empty();
        promise1EachItsOwn();
        promise2Bounds();
        promise2WhileItSounds();
        promise3Bounds();
        promise3Drawn();
        promise3AllAlike();
        promise4Bounds();
        promise4Count();
        promise4WhileKeysAreHeld();
        promise5EmptyAndFull();
        promise5Bounds();
        promise6Bounds();
        promise7Bounds();
        promise8Bounds();
        promise9Bounds();
        promise9Twice();
        promise10EmptyAndFull();
        promise10Again();
        promise11EmptyAndFull();
        promise11WithStopsSetSince();
        promise12Bounds();
        promise12Twice();
        promise13EmptyAndFull();
        promise14Bounds();
        promise14EmptyAndFull();
        promise14MuteAmongOthers();
        promise15EmptyAndFull();
        promise15Wear49And50();
        promise16EmptyAndFull();
        promise17Bounds();
        promise18EmptyAndFull();
        promise19EmptyAndFull();
        promise20Bounds();
        promise20Silent();
        promise21EmptyAndFull();
        promise21BelowZero();
        promise22Bounds();
        promise22Grows();
        promise23Bounds();
        promise23Held();
        promise23OverCouplers();
        promise23Full();
        CHECKS.end("EdgeTest");
    }

    // ---- promise 1

    private static void promise1Empty() {
        CHECKS.about("Creates an organ without drawn stops, couplers, and held keys");
        OrganBuilder organ = new OrganBuilder();
        for (int stop = 0; stop <= 11; stop++) {
            CHECKS.no("the stop " + stop, organ.draw(stop, false));
        }
        for (int from = 0; from <= 2; from++) {
            for (int to = 0; to <= 2; to++) {
                CHECKS.no("the coupler " + from + " to " + to, organ.uncouple(from, to));
            }
        }
        for (int manual = 0; manual <= 2; manual++) {
            for (int key = 0; key <= 60; key++) {
                CHECKS.no("the key " + key + " of " + manual, organ.hold(manual, key, false));
            }
        }
        CHECKS.equal("pipes", organ.pipes(), 0);
        CHECKS.equal("need", organ.need(), 0);
        CHECKS.equal("sagStep", organ.sagStep(), 0);
        CHECKS.equal("lowest", organ.lowest(), 0);
        CHECKS.equal("letGo", organ.letGo(), 0);
        CHECKS.equal("sound", organ.sound(50), 0);
        OrganBuilder worn = new OrganBuilder();
        for (int rank = 0; rank <= 5; rank++) {
            for (int key = 0; key <= 60; key++) {
                CHECKS.equal("wear", worn.wear(rank, key), 0);
            }
            CHECKS.equal("repair", worn.repair(rank), 0);
        }
        OrganBuilder silent = new OrganBuilder();
        for (int rank = 0; rank <= 5; rank++) {
            int same = rank;
            for (int key : new int[] {0, 1, 31, 59, 60}) {
                CHECKS.no("sounds", silent.sounds(rank, key));
                CHECKS.wrongState("pitch", () -> silent.pitch(same, key));
            }
        }
    }

    private static void promise1EachItsOwn() {
        OrganBuilder one = Organs.full();
        one.couple(0, 1, 12);
        one.setSupply(10);
        one.setSag(10, 99);
        one.tune(0, 9);
        one.keep(0);
        one.sound(50);
        OrganBuilder other = new OrganBuilder();
        CHECKS.no("no coupler of another one", other.uncouple(0, 1));
        CHECKS.equal("no supply", other.setSupply(100), 100);
        CHECKS.equal("no fall", other.setSag(10, 50), 50);
        CHECKS.equal("no offset", other.tune(0, 0), 0);
        CHECKS.equal("no registration", other.recall(0), 0);
        CHECKS.equal("no wear", other.wear(0, 0), 0);
        CHECKS.equal("no keys", other.letGo(), 0);
        other.draw(0, true);
        other.hold(0, 0, true);
        CHECKS.equal("nor the other way round", one.pipes(), 0);
    }

    // ---- promise 2

    private static void promise2Bounds() {
        CHECKS.about("setRank: rank 0 to 5, kind 0 to 3, wind 1 to 9, detune -50 to 50");
        for (int rank : new int[] {0, 5}) {
            OrganBuilder organ = Organs.withAllRanks();
            organ.hold(0, 60, true);
            organ.setRank(rank, 0, 1, -50);
            CHECKS.equal("the least of all", organ.pitch(rank, 60), 4750);
            CHECKS.equal("the least wind", organ.need(), 5 * 2 + 1);
            organ.setRank(rank, 3, 9, 50);
            CHECKS.equal("the most of all", organ.pitch(rank, 60), 7950);
            CHECKS.equal("the most wind", organ.need(), 5 * 2 + 9);
            CHECKS.equal("the rank beside it", organ.pitch(rank == 0 ? 1 : 4, 60), 6000);
        }
        OrganBuilder organ = new OrganBuilder();
        CHECKS.outOfRange("rank -1", () -> organ.setRank(-1, 1, 2, 0));
        CHECKS.outOfRange("rank 6", () -> organ.setRank(6, 1, 2, 0));
        CHECKS.outOfRange("kind -1", () -> organ.setRank(0, -1, 2, 0));
        CHECKS.outOfRange("kind 4", () -> organ.setRank(0, 4, 2, 0));
        CHECKS.outOfRange("wind 0", () -> organ.setRank(0, 1, 0, 0));
        CHECKS.outOfRange("wind 10", () -> organ.setRank(0, 1, 10, 0));
        CHECKS.outOfRange("detune -51", () -> organ.setRank(0, 1, 2, -51));
        CHECKS.outOfRange("detune 51", () -> organ.setRank(0, 1, 2, 51));
        CHECKS.outOfRange("all of them", () -> organ.setRank(6, 4, 10, 51));
    }

    private static void promise2WhileItSounds() {
        CHECKS.about("Sets a rank");
        OrganBuilder organ = Organs.withStop0();
        organ.hold(0, 48, true);
        organ.sound(49);
        organ.setRank(0, 2, 9, -1);
        CHECKS.equal("its pitch", organ.pitch(0, 48), 5999);
        CHECKS.equal("its need", organ.need(), 10);
        CHECKS.equal("its wear stays", organ.wear(0, 48), 49);
        organ.sound(1);
        organ.setRank(0, 1, 2, 0);
        CHECKS.equal("a mute pipe stays mute", organ.pipes(), 0);
        CHECKS.equal("with its wear", organ.wear(0, 48), 50);
    }

    // ---- promise 3

    private static void promise3Bounds() {
        CHECKS.about("setStop: stop 0 to 11, manual 0 to 2, rank 0 to 5");
        for (int stop : new int[] {0, 11}) {
            for (int manual : new int[] {0, 2}) {
                for (int rank : new int[] {0, 5}) {
                    OrganBuilder organ = new OrganBuilder();
                    organ.setStop(stop, manual, rank);
                    organ.draw(stop, true);
                    organ.hold(manual, 60, true);
                    CHECKS.yes("the stop " + stop, organ.sounds(rank, 60));
                    CHECKS.equal("nothing else", organ.pipes(), 1);
                }
            }
        }
        OrganBuilder organ = new OrganBuilder();
        CHECKS.outOfRange("stop -1", () -> organ.setStop(-1, 0, 0));
        CHECKS.outOfRange("stop 12", () -> organ.setStop(12, 0, 0));
        CHECKS.outOfRange("manual -1", () -> organ.setStop(0, -1, 0));
        CHECKS.outOfRange("manual 3", () -> organ.setStop(0, 3, 0));
        CHECKS.outOfRange("rank -1", () -> organ.setStop(0, 0, -1));
        CHECKS.outOfRange("rank 6", () -> organ.setStop(0, 0, 6));
    }

    private static void promise3Drawn() {
        CHECKS.about("Throws IllegalStateException if it is drawn");
        for (int stop : new int[] {0, 11}) {
            OrganBuilder organ = new OrganBuilder();
            organ.draw(stop, true);
            CHECKS.wrongState("drawn", () -> organ.setStop(stop, 1, 1));
            CHECKS.wrongState("drawn, to what it is", () -> organ.setStop(stop, stop % 3, stop / 2));
            organ.hold(stop % 3, 60, true);
            CHECKS.yes("it is what it was", organ.sounds(stop / 2, 60));
            organ.setStop(stop == 0 ? 1 : 10, 2, 2);
            organ.draw(stop, false);
            organ.setStop(stop, 1, 1);
            organ.draw(stop, true);
            organ.letGo();
            organ.hold(1, 60, true);
            CHECKS.yes("put back it can be set", organ.sounds(1, 60));
            organ.keep(0);
            organ.recall(1);
            organ.setStop(stop, 2, 5);
            organ.recall(0);
            CHECKS.wrongState("drawn by a registration", () -> organ.setStop(stop, 0, 0));
            organ.hold(2, 60, true);
            CHECKS.yes("and set ahead of that", organ.sounds(5, 60));
            CHECKS.equal("which is all", organ.pipes(), 1);
        }
    }

    private static void promise3AllAlike() {
        OrganBuilder organ = new OrganBuilder();
        for (int stop = 0; stop <= 11; stop++) {
            organ.setStop(stop, 1, 3);
        }
        Organs.drawAll(organ);
        organ.hold(1, 0, true);
        organ.hold(0, 1, true);
        CHECKS.equal("twelve stops of one pipe", organ.pipes(), 1);
        CHECKS.equal("its wind, once", organ.need(), 7);
        for (int stop = 0; stop <= 10; stop++) {
            organ.draw(stop, false);
        }
        CHECKS.equal("one stop is enough", organ.pipes(), 1);
        organ.draw(11, false);
        CHECKS.equal("none is not", organ.pipes(), 0);
    }

    // ---- promise 4

    private static void promise4Bounds() {
        CHECKS.about("couple: from 0 to 2, to 0 to 2, another manual, shift -12, 0 or 12");
        for (int from = 0; from <= 2; from++) {
            for (int to = 0; to <= 2; to++) {
                for (int shift = -13; shift <= 13; shift++) {
                    boundsOfOneCoupler(from, to, shift);
                }
            }
        }
        OrganBuilder organ = new OrganBuilder();
        CHECKS.outOfRange("from -1", () -> organ.couple(-1, 0, 0));
        CHECKS.outOfRange("from 3", () -> organ.couple(3, 0, 0));
        CHECKS.outOfRange("to -1", () -> organ.couple(0, -1, 0));
        CHECKS.outOfRange("to 3", () -> organ.couple(0, 3, 0));
        CHECKS.outOfRange("shift -24", () -> organ.couple(0, 1, -24));
        CHECKS.outOfRange("shift 24", () -> organ.couple(0, 1, 24));
    }

    private static void boundsOfOneCoupler(int from, int to, int shift) {
        OrganBuilder organ = new OrganBuilder();
        String what = from + " to " + to + ", shift " + shift;
        if (from != to && (shift == -12 || shift == 0 || shift == 12)) {
            CHECKS.equal(what, organ.couple(from, to, shift), 1);
            CHECKS.yes(what, organ.uncouple(from, to));
        } else {
            CHECKS.outOfRange(what, () -> organ.couple(from, to, shift));
            CHECKS.no(what, organ.uncouple(from, to));
        }
    }

    private static void promise4Count() {
        CHECKS.about("Returns how many couplers there are then");
        OrganBuilder organ = new OrganBuilder();
        CHECKS.equal("1", organ.couple(2, 1, 0), 1);
        CHECKS.equal("1, changed", organ.couple(2, 1, 12), 1);
        CHECKS.equal("1, the same again", organ.couple(2, 1, 12), 1);
        CHECKS.equal("2", organ.couple(2, 0, -12), 2);
        CHECKS.equal("2, changed", organ.couple(2, 1, -12), 2);
        CHECKS.equal("3", organ.couple(0, 1, 0), 3);
        CHECKS.equal("3, changed", organ.couple(0, 1, 12), 3);
        CHECKS.wrongState("a fourth", () -> organ.couple(1, 2, 0));
        CHECKS.equal("3, after a refused one", organ.couple(2, 0, 0), 3);
        organ.uncouple(2, 0);
        CHECKS.equal("2, after one is removed", organ.couple(2, 1, 0), 2);
        organ.uncouple(2, 1);
        organ.uncouple(0, 1);
        CHECKS.equal("1, after all are removed", organ.couple(1, 2, 0), 1);
    }

    private static void promise4WhileKeysAreHeld() {
        CHECKS.about("Adds a coupler, or changes the shift of the one that there is");
        OrganBuilder organ = new OrganBuilder();
        organ.setStop(0, 2, 0);
        organ.draw(0, true);
        organ.hold(0, 30, true);
        CHECKS.equal("not coupled", organ.pipes(), 0);
        organ.couple(0, 2, 12);
        CHECKS.yes("coupled", organ.sounds(0, 42));
        organ.couple(0, 2, -12);
        CHECKS.yes("changed", organ.sounds(0, 18));
        CHECKS.wrongState("a refused one", () -> organ.couple(2, 0, 0));
        CHECKS.outOfRange("a shift of 13", () -> organ.couple(0, 2, 13));
        CHECKS.yes("the shift stays", organ.sounds(0, 18));
        CHECKS.equal("and is the only one", organ.pipes(), 1);
    }

    // ---- promise 5

    private static void promise5EmptyAndFull() {
        CHECKS.about("uncouple: Returns whether there was one");
        OrganBuilder organ = new OrganBuilder();
        CHECKS.no("none", organ.uncouple(0, 1));
        organ.couple(0, 1, 0);
        organ.couple(1, 2, 12);
        organ.couple(0, 2, -12);
        for (int manual = 0; manual <= 2; manual++) {
            CHECKS.no("of a manual with itself", organ.uncouple(manual, manual));
        }
        CHECKS.no("1 to 0", organ.uncouple(1, 0));
        CHECKS.no("2 to 1", organ.uncouple(2, 1));
        CHECKS.no("2 to 0", organ.uncouple(2, 0));
        CHECKS.yes("0 to 1", organ.uncouple(0, 1));
        CHECKS.no("0 to 1 again", organ.uncouple(0, 1));
        CHECKS.yes("1 to 2", organ.uncouple(1, 2));
        CHECKS.yes("0 to 2", organ.uncouple(0, 2));
        CHECKS.equal("none again", organ.couple(2, 0, 0), 1);
    }

    private static void promise5Bounds() {
        CHECKS.about("uncouple: from 0 to 2, to 0 to 2");
        OrganBuilder organ = new OrganBuilder();
        for (int from : new int[] {0, 2}) {
            for (int to : new int[] {0, 2}) {
                CHECKS.no(from + " to " + to, organ.uncouple(from, to));
            }
        }
        CHECKS.outOfRange("from -1", () -> organ.uncouple(-1, 0));
        CHECKS.outOfRange("from 3", () -> organ.uncouple(3, 0));
        CHECKS.outOfRange("to -1", () -> organ.uncouple(0, -1));
        CHECKS.outOfRange("to 3", () -> organ.uncouple(0, 3));
        CHECKS.outOfRange("both -1", () -> organ.uncouple(-1, -1));
        CHECKS.outOfRange("both 3", () -> organ.uncouple(3, 3));
    }

    // ---- promises 6 to 8

    private static void promise6Bounds() {
        CHECKS.about("setSupply: wind 10 to 1000; Returns the supply before");
        OrganBuilder organ = new OrganBuilder();
        CHECKS.outOfRange("9", () -> organ.setSupply(9));
        CHECKS.outOfRange("1001", () -> organ.setSupply(1001));
        CHECKS.equal("10", organ.setSupply(10), 100);
        CHECKS.outOfRange("9 again", () -> organ.setSupply(9));
        CHECKS.equal("1000", organ.setSupply(1000), 10);
        CHECKS.outOfRange("1001 again", () -> organ.setSupply(1001));
        CHECKS.equal("the same", organ.setSupply(1000), 1000);
        CHECKS.equal("one less", organ.setSupply(999), 1000);
        CHECKS.equal("11", organ.setSupply(11), 999);
        CHECKS.equal("the last one", organ.setSupply(100), 11);
    }

    private static void promise7Bounds() {
        CHECKS.about("setSag: step 1 to 10, fall 0 to 100; Returns the fall before");
        OrganBuilder organ = new OrganBuilder();
        CHECKS.outOfRange("step 0", () -> organ.setSag(0, 0));
        CHECKS.outOfRange("step 11", () -> organ.setSag(11, 0));
        for (int step = 1; step <= 10; step++) {
            int same = step;
            CHECKS.outOfRange("fall -1", () -> organ.setSag(same, -1));
            CHECKS.outOfRange("fall 101", () -> organ.setSag(same, 101));
            CHECKS.equal("fall 0", organ.setSag(step, 0), 5 * step);
            CHECKS.equal("fall 100", organ.setSag(step, 100), 0);
            CHECKS.equal("fall 100 again", organ.setSag(step, 100), 100);
            CHECKS.equal("fall 99", organ.setSag(step, 99), 100);
            CHECKS.equal("fall 1", organ.setSag(step, step), 99);
        }
        for (int step = 1; step <= 10; step++) {
            CHECKS.equal("each step its own", organ.setSag(step, 0), step);
        }
    }

    private static void promise8Bounds() {
        CHECKS.about("tune: tone 0 to 11, offset -50 to 50; Returns the offset before");
        OrganBuilder organ = new OrganBuilder();
        CHECKS.outOfRange("tone -1", () -> organ.tune(-1, 0));
        CHECKS.outOfRange("tone 12", () -> organ.tune(12, 0));
        for (int tone = 0; tone <= 11; tone++) {
            int same = tone;
            CHECKS.outOfRange("offset -51", () -> organ.tune(same, -51));
            CHECKS.outOfRange("offset 51", () -> organ.tune(same, 51));
            CHECKS.equal("offset -50", organ.tune(tone, -50), 0);
            CHECKS.equal("offset 50", organ.tune(tone, 50), -50);
            CHECKS.equal("offset 50 again", organ.tune(tone, 50), 50);
            CHECKS.equal("offset 1", organ.tune(tone, tone + 1), 50);
        }
        for (int tone = 0; tone <= 11; tone++) {
            CHECKS.equal("each tone its own", organ.tune(tone, 0), tone + 1);
        }
    }

    // ---- promise 9

    private static void promise9Bounds() {
        CHECKS.about("draw: stop 0 to 11");
        OrganBuilder organ = new OrganBuilder();
        CHECKS.no("0", organ.draw(0, true));
        CHECKS.no("11", organ.draw(11, true));
        for (int stop : new int[] {-1, 12}) {
            CHECKS.outOfRange("draw " + stop, () -> organ.draw(stop, true));
            CHECKS.outOfRange("put back " + stop, () -> organ.draw(stop, false));
        }
        CHECKS.equal("0 and 11 are drawn", organ.keep(0), 2);
        CHECKS.yes("0 is", organ.draw(0, false));
        CHECKS.yes("11 is", organ.draw(11, false));
    }

    private static void promise9Twice() {
        CHECKS.about("drawn: whether it is drawn from now on; Returns whether it was");
        OrganBuilder organ = new OrganBuilder();
        for (int stop = 0; stop <= 11; stop++) {
            CHECKS.no("not drawn, put back", organ.draw(stop, false));
            CHECKS.no("not drawn, drawn", organ.draw(stop, true));
            CHECKS.yes("drawn, drawn", organ.draw(stop, true));
            CHECKS.equal("so many are drawn", organ.keep(0), stop + 1);
        }
        for (int stop = 0; stop <= 11; stop++) {
            CHECKS.yes("drawn, put back", organ.draw(stop, false));
            CHECKS.no("put back, put back", organ.draw(stop, false));
            CHECKS.equal("so many are left", organ.keep(0), 11 - stop);
        }
    }

    // ---- promises 10 and 11

    private static void promise10EmptyAndFull() {
        CHECKS.about("keep: registration 0 to 7; Returns how many are drawn");
        OrganBuilder organ = new OrganBuilder();
        for (int registration : new int[] {0, 7}) {
            CHECKS.equal("none", organ.keep(registration), 0);
            Organs.drawAll(organ);
            CHECKS.equal("all", organ.keep(registration), 12);
            CHECKS.equal("all again", organ.keep(registration), 12);
            CHECKS.equal("they stay drawn", organ.recall(registration), 0);
            for (int stop = 0; stop <= 11; stop++) {
                CHECKS.yes("the stop " + stop, organ.draw(stop, false));
            }
            CHECKS.equal("all are kept", organ.recall(registration), 12);
            organ.recall(3);
        }
        CHECKS.outOfRange("-1", () -> organ.keep(-1));
        CHECKS.outOfRange("8", () -> organ.keep(8));
    }

    private static void promise10Again() {
        CHECKS.about("Keeps which stops are drawn");
        OrganBuilder organ = new OrganBuilder();
        organ.draw(3, true);
        organ.keep(2);
        organ.draw(3, false);
        organ.draw(4, true);
        organ.draw(5, true);
        CHECKS.equal("kept anew", organ.keep(2), 2);
        organ.draw(4, false);
        organ.draw(6, true);
        CHECKS.equal("later drawing is not kept", organ.recall(2), 2);
        CHECKS.no("3 is not kept", organ.draw(3, false));
        CHECKS.yes("4 is kept", organ.draw(4, true));
        CHECKS.yes("5 is kept", organ.draw(5, true));
        CHECKS.no("6 is not kept", organ.draw(6, false));
        CHECKS.equal("the registrations beside it are empty", organ.recall(1), 2);
        CHECKS.equal("both", organ.recall(3), 0);
    }

    private static void promise11EmptyAndFull() {
        CHECKS.about("recall: Returns how many stops are drawn or put back by that");
        OrganBuilder organ = new OrganBuilder();
        CHECKS.equal("nothing by nothing", organ.recall(7), 0);
        Organs.drawAll(organ);
        organ.keep(0);
        CHECKS.equal("all by all", organ.recall(0), 0);
        CHECKS.equal("all put back", organ.recall(7), 12);
        CHECKS.equal("all drawn", organ.recall(0), 12);
        organ.recall(7);
        for (int stop = 0; stop <= 5; stop++) {
            organ.draw(stop, true);
        }
        organ.keep(1);
        for (int stop = 0; stop <= 11; stop++) {
            organ.draw(stop, stop >= 6);
        }
        CHECKS.equal("six drawn and six put back", organ.recall(1), 12);
        organ.draw(5, false);
        organ.draw(6, true);
        CHECKS.equal("one drawn and one put back", organ.recall(1), 2);
        CHECKS.equal("nothing the second time", organ.recall(1), 0);
        CHECKS.equal("these are drawn", organ.keep(2), 6);
        CHECKS.outOfRange("-1", () -> organ.recall(-1));
        CHECKS.outOfRange("8", () -> organ.recall(8));
    }

    private static void promise11WithStopsSetSince() {
        CHECKS.about("Draws just the stops of a registration");
        OrganBuilder organ = new OrganBuilder();
        organ.hold(0, 60, true);
        organ.hold(2, 0, true);
        organ.draw(0, true);
        organ.keep(0);
        CHECKS.yes("as it is kept", organ.sounds(0, 60));
        organ.recall(1);
        CHECKS.equal("nothing", organ.pipes(), 0);
        organ.setStop(0, 2, 5);
        organ.draw(3, true);
        CHECKS.equal("one drawn, one put back", organ.recall(0), 2);
        CHECKS.yes("the stop's manual and rank are not kept", organ.sounds(5, 0));
        CHECKS.equal("the stop 3 is put back", organ.pipes(), 1);
    }

    // ---- promises 12 and 13

    private static void promise12Bounds() {
        CHECKS.about("hold: manual 0 to 2, key 0 to 60");
        OrganBuilder organ = new OrganBuilder();
        for (int manual : new int[] {0, 2}) {
            for (int key : new int[] {0, 60}) {
                CHECKS.no("manual " + manual + ", key " + key, organ.hold(manual, key, true));
            }
        }
        for (boolean held : new boolean[] {true, false}) {
            CHECKS.outOfRange("manual -1", () -> organ.hold(-1, 0, held));
            CHECKS.outOfRange("manual 3", () -> organ.hold(3, 0, held));
            CHECKS.outOfRange("key -1", () -> organ.hold(0, -1, held));
            CHECKS.outOfRange("key 61", () -> organ.hold(0, 61, held));
            CHECKS.outOfRange("key 64, which is no key 0", () -> organ.hold(0, 64, held));
        }
        CHECKS.equal("four are held", organ.letGo(), 4);
    }

    private static void promise12Twice() {
        CHECKS.about("held: whether it is held from now on; Returns whether it was");
        for (int manual = 0; manual <= 2; manual++) {
            OrganBuilder organ = new OrganBuilder();
            organ.couple(manual == 2 ? 0 : 2, manual, 0);
            organ.hold(manual == 2 ? 0 : 2, 30, true);
            CHECKS.no("coupled is not held", organ.hold(manual, 30, false));
            for (int key = 0; key <= 60; key++) {
                CHECKS.no("not held, let go", organ.hold(manual, key, false));
                CHECKS.no("not held, held", organ.hold(manual, key, true));
                CHECKS.yes("held, held", organ.hold(manual, key, true));
            }
            for (int key = 60; key >= 0; key--) {
                CHECKS.yes("held, let go", organ.hold(manual, key, false));
                CHECKS.no("let go, let go", organ.hold(manual, key, false));
            }
            CHECKS.equal("the other one is left", organ.letGo(), 1);
        }
    }

    private static void promise13EmptyAndFull() {
        CHECKS.about("Lets all keys go; returns how many were held");
        OrganBuilder organ = new OrganBuilder();
        CHECKS.equal("none", organ.letGo(), 0);
        for (int manual = 0; manual <= 2; manual++) {
            Organs.holdKeys(organ, manual, 0, 60);
        }
        CHECKS.equal("all", organ.letGo(), 183);
        CHECKS.equal("all once", organ.letGo(), 0);
        for (int manual = 0; manual <= 2; manual++) {
            for (int key : new int[] {0, 60}) {
                CHECKS.no("it is let go", organ.hold(manual, key, true));
            }
        }
        organ.hold(2, 60, false);
        organ.hold(1, 30, false);
        CHECKS.equal("five", organ.letGo(), 5);
        organ.couple(0, 1, 0);
        organ.couple(1, 2, 0);
        organ.hold(0, 0, true);
        organ.hold(0, 0, true);
        CHECKS.equal("one, held twice and coupled", organ.letGo(), 1);
        Organs.drawAll(organ);
        CHECKS.equal("nothing sounds then", organ.pipes(), 0);
    }

    // ---- promises 14 and 15

    private static void promise14Bounds() {
        CHECKS.about("sound: times 1 to 50: by how much");
        for (int times : new int[] {1, 2, 49, 50}) {
            OrganBuilder organ = Organs.withStop0();
            organ.hold(0, 0, true);
            CHECKS.equal("sound " + times, organ.sound(times), 1);
            CHECKS.equal("wear by " + times, organ.wear(0, 0), times);
            CHECKS.equal("the pipe beside it", organ.wear(0, 1), 0);
            CHECKS.equal("the rank beside it", organ.wear(1, 0), 0);
        }
        OrganBuilder organ = Organs.withStop0();
        organ.hold(0, 0, true);
        CHECKS.outOfRange("0", () -> organ.sound(0));
        CHECKS.outOfRange("51", () -> organ.sound(51));
        CHECKS.outOfRange("-1", () -> organ.sound(-1));
        CHECKS.equal("no wear by that", organ.wear(0, 0), 0);
    }

    private static void promise14EmptyAndFull() {
        CHECKS.about("Returns how many pipes sound, ahead of it");
        CHECKS.equal("none", new OrganBuilder().sound(1), 0);
        OrganBuilder full = Organs.full();
        CHECKS.equal("all", full.sound(50), 366);
        CHECKS.equal("all are mute", full.sound(50), 0);
        for (int rank = 0; rank <= 5; rank++) {
            for (int key = 0; key <= 60; key++) {
                CHECKS.equal("each wears", full.wear(rank, key), 50);
            }
        }
    }

    private static void promise14MuteAmongOthers() {
        CHECKS.about("the wear of each pipe that sounds becomes greater");
        OrganBuilder organ = Organs.withStop0();
        organ.hold(0, 10, true);
        organ.sound(50);
        organ.hold(0, 20, true);
        organ.sound(49);
        organ.hold(0, 30, true);
        CHECKS.equal("the keys 20 and 30", organ.sound(1), 2);
        CHECKS.equal("50 does not wear", organ.wear(0, 10), 50);
        CHECKS.equal("49 does", organ.wear(0, 20), 50);
        CHECKS.equal("0 does", organ.wear(0, 30), 1);
        CHECKS.equal("the key 30 alone", organ.sound(1), 1);
        organ.draw(0, false);
        CHECKS.equal("held, but no stop is drawn", organ.sound(1), 0);
        CHECKS.equal("which wears nothing", organ.wear(0, 30), 2);
    }

    private static void promise15EmptyAndFull() {
        CHECKS.about("Repairs a rank: the wear of all its pipes is 0; Returns how many of its pipes were"
                + " mute");
        OrganBuilder full = Organs.full();
        for (int rank : new int[] {0, 5}) {
            CHECKS.equal("a new rank", full.repair(rank), 0);
        }
        CHECKS.equal("all sound", full.sound(50), 366);
        CHECKS.equal("all of a rank", full.repair(0), 61);
        CHECKS.equal("its pipes sound", full.pipes(), 61);
        CHECKS.equal("once", full.repair(0), 0);
        CHECKS.equal("another rank", full.repair(5), 61);
        CHECKS.equal("two ranks sound", full.pipes(), 122);
        for (int key = 0; key <= 60; key++) {
            CHECKS.equal("the rank 0", full.wear(0, key), 0);
            CHECKS.equal("the rank 5", full.wear(5, key), 0);
            CHECKS.equal("the rank 1 stays", full.wear(1, key), 50);
            CHECKS.equal("the rank 4 stays", full.wear(4, key), 50);
        }
        CHECKS.outOfRange("-1", () -> full.repair(-1));
        CHECKS.outOfRange("6", () -> full.repair(6));
    }

    private static void promise15Wear49And50() {
        OrganBuilder organ = Organs.withStop0();
        organ.hold(0, 60, true);
        organ.sound(1);
        organ.hold(0, 0, true);
        organ.sound(49);
        CHECKS.equal("50", organ.wear(0, 60), 50);
        CHECKS.equal("49", organ.wear(0, 0), 49);
        CHECKS.equal("50 counts, 49 does not", organ.repair(0), 1);
        CHECKS.equal("50 is repaired", organ.wear(0, 60), 0);
        CHECKS.equal("49 is repaired", organ.wear(0, 0), 0);
        organ.sound(50);
        organ.letGo();
        CHECKS.equal("mute pipes count when no key is held", organ.repair(0), 2);
    }

    // ---- promises 16 to 19

    private static void promise16EmptyAndFull() {
        CHECKS.about("Returns how many pipes sound");
        OrganBuilder organ = new OrganBuilder();
        CHECKS.equal("none", organ.pipes(), 0);
        Organs.drawAll(organ);
        CHECKS.equal("all stops", organ.pipes(), 0);
        Organs.holdKeys(organ, 0, 0, 60);
        CHECKS.equal("the manual 0: the ranks 0, 1, 3, 4", organ.pipes(), 4 * 61);
        Organs.holdKeys(organ, 1, 0, 60);
        CHECKS.equal("the manual 1: the ranks 0, 2, 3, 5, too", organ.pipes(), 366);
        Organs.holdKeys(organ, 2, 0, 60);
        CHECKS.equal("the manual 2: nothing more", organ.pipes(), 366);
    }

    private static void promise17Bounds() {
        CHECKS.about("sounds: rank 0 to 5, key 0 to 60");
        OrganBuilder organ = Organs.withAllRanks();
        organ.hold(0, 0, true);
        organ.hold(0, 60, true);
        for (int rank : new int[] {0, 5}) {
            CHECKS.yes("the key 0", organ.sounds(rank, 0));
            CHECKS.no("the key 1", organ.sounds(rank, 1));
            CHECKS.no("the key 59", organ.sounds(rank, 59));
            CHECKS.yes("the key 60", organ.sounds(rank, 60));
            CHECKS.outOfRange("the key -1", () -> organ.sounds(rank, -1));
            CHECKS.outOfRange("the key 61", () -> organ.sounds(rank, 61));
            CHECKS.outOfRange("the key 64, which is no key 0", () -> organ.sounds(rank, 64));
        }
        CHECKS.outOfRange("the rank -1", () -> organ.sounds(-1, 0));
        CHECKS.outOfRange("the rank 6", () -> organ.sounds(6, 0));
    }

    private static void promise18EmptyAndFull() {
        CHECKS.about("Returns the need");
        OrganBuilder organ = new OrganBuilder();
        CHECKS.equal("none", organ.need(), 0);
        organ.hold(0, 0, true);
        CHECKS.equal("a key, no stop", organ.need(), 0);
        organ.draw(0, true);
        CHECKS.equal("a key, a stop", organ.need(), 7);
        organ.hold(0, 0, false);
        CHECKS.equal("no key, a stop", organ.need(), 0);
        OrganBuilder full = Organs.full();
        CHECKS.equal("all", full.need(), 1482);
        full.sound(50);
        CHECKS.equal("all are mute", full.need(), 0);
        full.repair(3);
        CHECKS.equal("one rank is repaired", full.need(), 247);
    }

    private static void promise19EmptyAndFull() {
        CHECKS.about("Returns the step of the sag");
        OrganBuilder full = Organs.full();
        CHECKS.equal("1482 of 100", full.sagStep(), 10);
        full.setSupply(1000);
        CHECKS.equal("1482 of 1000", full.sagStep(), 5);
        full.setSupply(981);
        CHECKS.equal("1482 of 981: the excess is 501", full.sagStep(), 6);
        full.setSupply(780);
        CHECKS.equal("1482 of 780: the excess is 702, nine tenths", full.sagStep(), 10);
        full.setSupply(781);
        CHECKS.equal("1482 of 781: the excess is 701, less than that", full.sagStep(), 9);
        full.setSupply(741);
        CHECKS.equal("1482 of 741: the excess is as great", full.sagStep(), 10);
        full.letGo();
        CHECKS.equal("0 of 741", full.sagStep(), 0);
        full.setSupply(10);
        CHECKS.equal("0 of 10", full.sagStep(), 0);
    }

    // ---- promises 20 and 21

    private static void promise20Bounds() {
        CHECKS.about("pitch: rank 0 to 5, key 0 to 60");
        OrganBuilder organ = Organs.withAllRanks();
        organ.hold(0, 0, true);
        organ.hold(0, 60, true);
        for (int rank : new int[] {0, 5}) {
            CHECKS.equal("the key 0", organ.pitch(rank, 0), 0);
            CHECKS.equal("the key 60", organ.pitch(rank, 60), 6000);
            CHECKS.outOfRange("the key -1", () -> organ.pitch(rank, -1));
            CHECKS.outOfRange("the key 61", () -> organ.pitch(rank, 61));
            CHECKS.outOfRange("the key 64", () -> organ.pitch(rank, 64));
        }
        CHECKS.outOfRange("the rank -1", () -> organ.pitch(-1, 0));
        CHECKS.outOfRange("the rank 6", () -> organ.pitch(6, 0));
    }

    private static void promise20Silent() {
        CHECKS.about("Throws IllegalStateException if it does not sound");
        OrganBuilder organ = Organs.withAllRanks();
        organ.hold(0, 30, true);
        for (int rank = 0; rank <= 5; rank++) {
            int same = rank;
            CHECKS.equal("it sounds", organ.pitch(rank, 30), 3000);
            CHECKS.wrongState("the key below", () -> organ.pitch(same, 29));
            CHECKS.wrongState("the key above", () -> organ.pitch(same, 31));
        }
        organ.sound(49);
        CHECKS.equal("at the wear 49", organ.pitch(0, 30), 3000);
        organ.sound(1);
        CHECKS.wrongState("at the wear 50", () -> organ.pitch(0, 30));
        organ.repair(0);
        CHECKS.equal("repaired", organ.pitch(0, 30), 3000);
        organ.draw(0, false);
        CHECKS.wrongState("put back", () -> organ.pitch(0, 30));
        organ.draw(0, true);
        organ.letGo();
        CHECKS.wrongState("let go", () -> organ.pitch(0, 30));
    }

    private static void promise21EmptyAndFull() {
        CHECKS.about("Returns the least pitch of all pipes that sound; 0 if none does");
        OrganBuilder organ = new OrganBuilder();
        CHECKS.equal("none", organ.lowest(), 0);
        organ.setRank(0, 0, 2, -50);
        organ.tune(0, -50);
        CHECKS.equal("none, whatever the ranks are", organ.lowest(), 0);
        organ.hold(0, 0, true);
        CHECKS.equal("none without a stop", organ.lowest(), 0);
        organ.draw(0, true);
        CHECKS.equal("one", organ.lowest(), -1300);
        organ.sound(50);
        CHECKS.equal("none that is mute", organ.lowest(), 0);
        OrganBuilder full = Organs.full();
        CHECKS.equal("all, the step 10", full.lowest(), -50);
        full.setRank(5, 0, 1, -50);
        CHECKS.equal("the last rank", full.lowest(), -1300);
        full.sound(50);
        CHECKS.equal("all mute", full.lowest(), 0);
    }

    private static void promise21BelowZero() {
        CHECKS.about("Returns the least pitch of all pipes that sound");
        OrganBuilder organ = Organs.withAllRanks();
        organ.setSupply(1000);
        organ.hold(0, 60, true);
        for (int rank = 5; rank >= 0; rank--) {
            organ.setRank(rank, 3, 1, rank);
        }
        CHECKS.equal("the first rank", organ.lowest(), 7900);
        organ.setRank(3, 3, 1, -1);
        CHECKS.equal("a rank between", organ.lowest(), 7899);
        organ.setRank(5, 3, 1, -2);
        CHECKS.equal("the last rank", organ.lowest(), 7898);
        organ.hold(0, 59, true);
        organ.tune(11, 50);
        CHECKS.equal("a lower key", organ.lowest(), 7848);
        organ.setRank(5, 3, 1, 50);
        organ.setRank(3, 3, 1, 50);
        organ.tune(0, -50);
        organ.setRank(1, 0, 1, -50);
        CHECKS.equal("two keys 100 apart, 100 of tuning", organ.lowest(), 4700);
        organ.hold(0, 0, true);
        CHECKS.equal("below 0", organ.lowest(), -1300);
    }

    // ---- promise 22

    private static void promise22Bounds() {
        CHECKS.about("wear: rank 0 to 5, key 0 to 60");
        OrganBuilder organ = Organs.withAllRanks();
        organ.hold(0, 0, true);
        organ.sound(1);
        organ.hold(0, 60, true);
        organ.sound(2);
        for (int rank : new int[] {0, 5}) {
            CHECKS.equal("the key 0", organ.wear(rank, 0), 3);
            CHECKS.equal("the key 1", organ.wear(rank, 1), 0);
            CHECKS.equal("the key 59", organ.wear(rank, 59), 0);
            CHECKS.equal("the key 60", organ.wear(rank, 60), 2);
            CHECKS.outOfRange("the key -1", () -> organ.wear(rank, -1));
            CHECKS.outOfRange("the key 61", () -> organ.wear(rank, 61));
        }
        CHECKS.outOfRange("the rank -1", () -> organ.wear(-1, 0));
        CHECKS.outOfRange("the rank 6", () -> organ.wear(6, 0));
    }

    private static void promise22Grows() {
        CHECKS.about("Returns the wear");
        OrganBuilder organ = Organs.withStop0();
        organ.hold(0, 30, true);
        for (int wear = 1; wear <= 50; wear++) {
            organ.sound(1);
            CHECKS.equal("one more", organ.wear(0, 30), wear);
        }
        organ.sound(1);
        CHECKS.equal("a mute pipe has the wear that made it mute", organ.wear(0, 30), 50);
        organ.repair(0);
        organ.sound(49);
        organ.sound(50);
        organ.sound(50);
        CHECKS.equal("the greatest wear", organ.wear(0, 30), 99);
    }

    // ---- promise 23

    private static void promise23Bounds() {
        CHECKS.about("more: manual 0 to 2, key 0 to 60");
        OrganBuilder organ = new OrganBuilder();
        organ.draw(0, true);
        organ.draw(11, true);
        organ.setRank(5, 1, 9, 0);
        CHECKS.equal("manual 0, key 0", organ.more(0, 0), 7);
        CHECKS.equal("manual 0, key 60", organ.more(0, 60), 2);
        CHECKS.equal("manual 1, which has no stop", organ.more(1, 0), 0);
        CHECKS.equal("manual 2, key 0", organ.more(2, 0), 14);
        CHECKS.equal("manual 2, key 60", organ.more(2, 60), 9);
        CHECKS.outOfRange("manual -1", () -> organ.more(-1, 0));
        CHECKS.outOfRange("manual 3", () -> organ.more(3, 0));
        CHECKS.outOfRange("key -1", () -> organ.more(0, -1));
        CHECKS.outOfRange("key 61", () -> organ.more(0, 61));
        CHECKS.outOfRange("key 64, which is no key 0", () -> organ.more(0, 64));
        CHECKS.equal("no key is held by that", organ.letGo(), 0);
        CHECKS.equal("no pipe sounds", organ.pipes(), 0);
    }

    private static void promise23Held() {
        CHECKS.about("0 if it is held");
        OrganBuilder organ = Organs.withStop0();
        for (int key : new int[] {0, 12, 13, 60}) {
            int due = key == 0 ? 7 : key == 12 ? 6 : key == 13 ? 5 : 2;
            CHECKS.equal("not held, the key " + key, organ.more(0, key), due);
            organ.hold(0, key, true);
            CHECKS.equal("held, the key " + key, organ.more(0, key), 0);
        }
        organ.hold(1, 30, true);
        organ.draw(1, true);
        CHECKS.equal("held on another manual that sounds the pipe", organ.more(0, 30), 0);
        organ.draw(1, false);
        CHECKS.equal("held on another manual that does not", organ.more(0, 30), 4);
    }

    private static void promise23OverCouplers() {
        CHECKS.about("Returns the need with it less the need without it");
        OrganBuilder organ = new OrganBuilder();
        organ.setStop(0, 2, 0);
        organ.draw(0, true);
        organ.couple(0, 1, 12);
        CHECKS.equal("a coupler to no stop", organ.more(0, 30), 0);
        organ.couple(1, 2, 12);
        CHECKS.equal("over two, to 60", organ.more(0, 36), 2);
        CHECKS.equal("over two, to 61", organ.more(0, 37), 0);
        CHECKS.equal("over one, to 60", organ.more(1, 48), 2);
        CHECKS.equal("over one, to 61", organ.more(1, 49), 0);
        organ.couple(0, 2, -12);
        CHECKS.equal("two ways, to 60 and 24", organ.more(0, 36), 2 + 5);
        CHECKS.equal("two ways, the upper one ends in no key", organ.more(0, 37), 2 + 2);
        CHECKS.equal("two ways, the lower one ends in no key", organ.more(0, 11), 2 + 2);
        organ.hold(2, 24, true);
        CHECKS.equal("one of both sounds without it", organ.more(0, 36), 2);
        organ.hold(1, 48, true);
        CHECKS.equal("both do", organ.more(0, 36), 0);
        CHECKS.equal("the pipes stay", organ.pipes(), 2);
    }

    private static void promise23Full() {
        OrganBuilder full = Organs.full();
        full.hold(0, 30, false);
        CHECKS.equal("the one key of six ranks", full.more(0, 30), 6 * (2 + 2));
        full.hold(0, 30, true);
        for (int key = 0; key <= 60; key++) {
            CHECKS.equal("all are held", full.more(0, key), 0);
            CHECKS.equal("no stop on the manual 2", full.more(2, key), 0);
        }
        full.hold(0, 30, false);
        full.sound(50);
        CHECKS.equal("none but it is not mute", full.more(0, 30), 24);
        full.letGo();
        CHECKS.equal("a mute one", full.more(0, 31), 0);
        full.repair(5);
        CHECKS.equal("a repaired one", full.more(0, 31), 4);
    }
}
