/** A method for each promise of the document: ordinary inputs, edges, and wrong inputs. */
public final class PromiseTest {
    private static final int LOW = Integer.MIN_VALUE;
    private static final int HIGH = Integer.MAX_VALUE;
    private static final Checks CHECKS = new Checks();

    public static void main(String[] args) {
        promise1NewObject();
        promise2SetRank();
        promise2Refuses();
        promise3SetStop();
        promise3Refuses();
        promise4Couple();
        promise4Rings();
        promise4Refuses();
        promise5Uncouple();
        promise6SetSupply();
        promise7SetSag();
        promise8Tune();
        promise9Draw();
        promise10Keep();
        promise11Recall();
        promise12Hold();
        promise13LetGo();
        promise14Sound();
        promise15Repair();
        promise16Pipes();
        promise16WaysOverCouplers();
        promise17Sounds();
        promise18Need();
        promise19SagStep();
        promise20Pitch();
        promise20Sag();
        promise21Lowest();
        promise22Wear();
        promise23More();
        CHECKS.end("PromiseTest");
    }

    /** An organ on which the stop 0 is drawn: the manual 0 with the rank 0. */
    private static OrganBuilder organWithStop0() {
        OrganBuilder organ = new OrganBuilder();
        organ.draw(0, true);
        return organ;
    }

    private static void promise1NewObject() {
        OrganBuilder organ = new OrganBuilder();
        CHECKS.equal("new pipes", organ.pipes(), 0);
        CHECKS.equal("new need", organ.need(), 0);
        CHECKS.equal("new sagStep", organ.sagStep(), 0);
        CHECKS.equal("new lowest", organ.lowest(), 0);
        CHECKS.equal("new letGo", organ.letGo(), 0);
        CHECKS.equal("new supply", organ.setSupply(500), 100);
        for (int step = 1; step <= 10; step++) {
            CHECKS.equal("new fall of " + step, organ.setSag(step, 0), 5 * step);
        }
        for (int tone = 0; tone < 12; tone++) {
            CHECKS.equal("new offset of " + tone, organ.tune(tone, 1), 0);
        }
        for (int registration = 0; registration < 8; registration++) {
            CHECKS.equal("new registration " + registration, organ.recall(registration), 0);
        }
        for (int from = 0; from < 3; from++) {
            for (int to = 0; to < 3; to++) {
                CHECKS.no("new coupler " + from + " to " + to, organ.uncouple(from, to));
            }
        }
        for (int rank = 0; rank < 6; rank++) {
            for (int key = 0; key < 61; key += 60) {
                CHECKS.equal("new wear", organ.wear(rank, key), 0);
            }
        }
        newStops();
    }

    private static void newStops() {
        for (int stop = 0; stop < 12; stop++) {
            OrganBuilder organ = new OrganBuilder();
            CHECKS.no("new stop " + stop + " drawn", organ.draw(stop, true));
            for (int manual = 0; manual < 3; manual++) {
                organ.hold(manual, manual, true);
            }
            CHECKS.equal("new stop " + stop + " pipes", organ.pipes(), 1);
            CHECKS.yes("new stop " + stop, organ.sounds(stop / 2, stop % 3));
            CHECKS.equal("new rank pitch", organ.pitch(stop / 2, stop % 3), 100 * (stop % 3));
            CHECKS.equal("new rank wind", organ.need(), stop % 3 == 0 ? 7 : 6);
        }
    }

    private static void promise2SetRank() {
        int[] halfTones = {-12, 0, 12, 19};
        OrganBuilder organ = organWithStop0();
        organ.hold(0, 30, true);
        for (int kind = 0; kind < 4; kind++) {
            organ.setRank(0, kind, 1, 50);
            CHECKS.equal("kind " + kind, organ.pitch(0, 30), 100 * (30 + halfTones[kind]) + 50);
            CHECKS.equal("wind 1", organ.need(), 3);
            organ.setRank(0, kind, 9, -50);
            CHECKS.equal("kind " + kind, organ.pitch(0, 30), 100 * (30 + halfTones[kind]) - 50);
            CHECKS.equal("wind 9", organ.need(), 11);
        }
        organ.setRank(1, 0, 5, 5);
        organ.setRank(5, 0, 5, 5);
        CHECKS.equal("other ranks change nothing", organ.pitch(0, 30), 4850);
        CHECKS.equal("other ranks take nothing", organ.need(), 11);
        organ.draw(11, true);
        organ.hold(2, 60, true);
        CHECKS.equal("rank 5", organ.pitch(5, 60), 4805);
    }

    private static void promise2Refuses() {
        OrganBuilder organ = organWithStop0();
        organ.hold(0, 30, true);
        for (int rank : new int[] {-1, 6, LOW, HIGH}) {
            CHECKS.outOfRange("setRank rank " + rank, () -> organ.setRank(rank, 0, 1, 0));
        }
        for (int kind : new int[] {-1, 4, LOW, HIGH}) {
            CHECKS.outOfRange("setRank kind " + kind, () -> organ.setRank(0, kind, 1, 1));
        }
        for (int wind : new int[] {-1, 0, 10, LOW, HIGH}) {
            CHECKS.outOfRange("setRank wind " + wind, () -> organ.setRank(0, 0, wind, 1));
        }
        for (int detune : new int[] {-51, 51, LOW, HIGH}) {
            CHECKS.outOfRange("setRank detune " + detune, () -> organ.setRank(0, 0, 1, detune));
        }
        CHECKS.equal("a refused setRank keeps the pitch", organ.pitch(0, 30), 3000);
        CHECKS.equal("a refused setRank keeps the wind", organ.need(), 4);
    }

    private static void promise3SetStop() {
        OrganBuilder organ = new OrganBuilder();
        organ.hold(2, 10, true);
        organ.setStop(0, 2, 5);
        organ.draw(0, true);
        CHECKS.yes("the stop's new manual and rank", organ.sounds(5, 10));
        CHECKS.equal("only these", organ.pipes(), 1);
        CHECKS.wrongState("a drawn stop", () -> organ.setStop(0, 0, 0));
        CHECKS.wrongState("a drawn stop, the same", () -> organ.setStop(0, 2, 5));
        CHECKS.yes("a refused setStop changes nothing", organ.sounds(5, 10));
        organ.draw(0, false);
        organ.setStop(0, 0, 0);
        organ.hold(0, 3, true);
        organ.draw(0, true);
        CHECKS.yes("set again", organ.sounds(0, 3));
        CHECKS.equal("and only these", organ.pipes(), 1);
        organ.setStop(11, 0, 1);
        organ.draw(11, true);
        CHECKS.yes("the stop 11", organ.sounds(1, 3));
    }

    private static void promise3Refuses() {
        OrganBuilder organ = organWithStop0();
        for (int stop : new int[] {-1, 12, 32, LOW, HIGH}) {
            CHECKS.outOfRange("setStop stop " + stop, () -> organ.setStop(stop, 0, 0));
        }
        for (int manual : new int[] {-1, 3, LOW, HIGH}) {
            CHECKS.outOfRange("setStop manual " + manual, () -> organ.setStop(1, manual, 0));
            CHECKS.outOfRange("setStop range first", () -> organ.setStop(0, manual, 0));
        }
        for (int rank : new int[] {-1, 6, LOW, HIGH}) {
            CHECKS.outOfRange("setStop rank " + rank, () -> organ.setStop(1, 2, rank));
            CHECKS.outOfRange("setStop range first", () -> organ.setStop(0, 0, rank));
        }
        organ.draw(1, true);
        organ.hold(1, 1, true);
        organ.hold(2, 2, true);
        CHECKS.yes("a refused setStop keeps the stop", organ.sounds(0, 1));
        CHECKS.equal("and nothing more", organ.pipes(), 1);
    }

    private static void promise4Couple() {
        OrganBuilder organ = organWithStop0();
        organ.draw(1, true);
        organ.setRank(0, 1, 1, 0);
        CHECKS.equal("a first coupler", organ.couple(1, 0, 0), 1);
        organ.hold(1, 12, true);
        CHECKS.equal("the same pipe by two ways", organ.pipes(), 1);
        CHECKS.yes("shift 0", organ.sounds(0, 12));
        CHECKS.equal("a changed shift adds none", organ.couple(1, 0, 12), 1);
        CHECKS.yes("shift 12", organ.sounds(0, 24));
        CHECKS.equal("shift 12 and the own stop", organ.pipes(), 2);
        CHECKS.equal("shift -12", organ.couple(1, 0, -12), 1);
        CHECKS.yes("shift -12 reaches 0", organ.sounds(0, 0));
        organ.hold(1, 11, true);
        CHECKS.equal("11 less 12 is no key", organ.pipes(), 3);
        organ.couple(1, 0, 12);
        organ.letGo();
        organ.hold(1, 48, true);
        CHECKS.yes("48 and 12 is 60", organ.sounds(0, 60));
        organ.letGo();
        organ.hold(1, 49, true);
        CHECKS.equal("49 and 12 is no key", organ.pipes(), 1);
        CHECKS.equal("49 and 12 takes no wind", organ.need(), 1);
        organ.letGo();
        organ.hold(0, 20, true);
        organ.draw(0, false);
        CHECKS.equal("a coupler goes one way", organ.pipes(), 0);
    }

    private static void promise4Rings() {
        for (int a = 0; a < 3; a++) {
            for (int b = 0; b < 3; b++) {
                if (a != b) {
                    ringsBetween(a, b, 3 - a - b);
                }
            }
        }
    }

    private static void ringsBetween(int a, int b, int c) {
        OrganBuilder organ = new OrganBuilder();
        CHECKS.equal("one", organ.couple(a, b, 12), 1);
        CHECKS.wrongState("back", () -> organ.couple(b, a, -12));
        CHECKS.equal("two", organ.couple(b, c, 0), 2);
        CHECKS.wrongState("a ring of three", () -> organ.couple(c, a, 0));
        CHECKS.wrongState("back again", () -> organ.couple(c, b, 0));
        CHECKS.equal("another way", organ.couple(a, c, -12), 3);
        CHECKS.equal("changed", organ.couple(a, c, 0), 3);
        CHECKS.no("a refused coupler is not there", organ.uncouple(c, a));
        CHECKS.yes("removed", organ.uncouple(a, c));
        CHECKS.wrongState("still a ring", () -> organ.couple(c, a, 0));
        CHECKS.yes("the middle removed", organ.uncouple(b, c));
        CHECKS.equal("no ring any more", organ.couple(c, a, 0), 2);
        CHECKS.wrongState("a ring the other way", () -> organ.couple(b, c, 0));
    }

    private static void promise4Refuses() {
        OrganBuilder organ = new OrganBuilder();
        for (int manual : new int[] {-1, 3, LOW, HIGH}) {
            CHECKS.outOfRange("couple from " + manual, () -> organ.couple(manual, 0, 0));
            CHECKS.outOfRange("couple to " + manual, () -> organ.couple(0, manual, 0));
            CHECKS.outOfRange("couple both " + manual, () -> organ.couple(manual, manual, 0));
        }
        for (int manual = 0; manual < 3; manual++) {
            int same = manual;
            CHECKS.outOfRange("couple to itself", () -> organ.couple(same, same, 0));
        }
        organ.couple(0, 1, 0);
        for (int shift : new int[] {-24, -13, -11, -1, 1, 11, 13, 24, LOW, HIGH}) {
            CHECKS.outOfRange("couple shift " + shift, () -> organ.couple(1, 2, shift));
            CHECKS.outOfRange("couple shift ahead of ring", () -> organ.couple(1, 0, shift));
        }
        CHECKS.no("nothing was coupled", organ.uncouple(1, 2));
        CHECKS.equal("nothing counts", organ.couple(1, 2, 0), 2);
    }

    private static void promise5Uncouple() {
        OrganBuilder organ = organWithStop0();
        organ.couple(1, 0, 0);
        organ.hold(1, 5, true);
        CHECKS.no("the other way", organ.uncouple(0, 1));
        CHECKS.equal("still coupled", organ.pipes(), 1);
        CHECKS.yes("there was one", organ.uncouple(1, 0));
        CHECKS.equal("no more coupled", organ.pipes(), 0);
        CHECKS.no("there is none", organ.uncouple(1, 0));
        for (int manual = 0; manual < 3; manual++) {
            CHECKS.no("of one manual", organ.uncouple(manual, manual));
        }
        CHECKS.equal("count after it", organ.couple(0, 1, 0), 1);
        for (int manual : new int[] {-1, 3, LOW, HIGH}) {
            CHECKS.outOfRange("uncouple from " + manual, () -> organ.uncouple(manual, 1));
            CHECKS.outOfRange("uncouple to " + manual, () -> organ.uncouple(0, manual));
        }
        CHECKS.yes("a refused uncouple removes none", organ.uncouple(0, 1));
    }

    private static void promise6SetSupply() {
        OrganBuilder organ = new OrganBuilder();
        CHECKS.equal("supply at first", organ.setSupply(10), 100);
        CHECKS.equal("the least supply", organ.setSupply(1000), 10);
        CHECKS.equal("the most supply", organ.setSupply(77), 1000);
        for (int wind : new int[] {-100, -1, 0, 9, 1001, LOW, HIGH}) {
            CHECKS.outOfRange("setSupply " + wind, () -> organ.setSupply(wind));
        }
        CHECKS.equal("a refused supply", organ.setSupply(77), 77);
    }

    private static void promise7SetSag() {
        OrganBuilder organ = new OrganBuilder();
        CHECKS.equal("step 1", organ.setSag(1, 100), 5);
        CHECKS.equal("step 10", organ.setSag(10, 0), 50);
        CHECKS.equal("step 1 again", organ.setSag(1, 1), 100);
        CHECKS.equal("step 10 again", organ.setSag(10, 2), 0);
        for (int step : new int[] {-1, 0, 11, LOW, HIGH}) {
            CHECKS.outOfRange("setSag step " + step, () -> organ.setSag(step, 5));
        }
        for (int fall : new int[] {-1, 101, LOW, HIGH}) {
            CHECKS.outOfRange("setSag fall " + fall, () -> organ.setSag(5, fall));
        }
        CHECKS.equal("a refused fall", organ.setSag(5, 25), 25);
        CHECKS.equal("other steps stay", organ.setSag(9, 45), 45);
    }

    private static void promise8Tune() {
        OrganBuilder organ = organWithStop0();
        CHECKS.equal("tone 0", organ.tune(0, 50), 0);
        CHECKS.equal("tone 11", organ.tune(11, -50), 0);
        CHECKS.equal("tone 0 again", organ.tune(0, 7), 50);
        CHECKS.equal("tone 11 again", organ.tune(11, -8), -50);
        for (int tone : new int[] {-1, 12, LOW, HIGH}) {
            CHECKS.outOfRange("tune tone " + tone, () -> organ.tune(tone, 0));
        }
        for (int offset : new int[] {-51, 51, LOW, HIGH}) {
            CHECKS.outOfRange("tune offset " + offset, () -> organ.tune(0, offset));
        }
        organ.hold(0, 59, true);
        organ.hold(0, 60, true);
        organ.hold(0, 58, true);
        CHECKS.equal("a key of the tone 11", organ.pitch(0, 59), 5892);
        CHECKS.equal("a key of the tone 0", organ.pitch(0, 60), 6007);
        CHECKS.equal("a key of the tone 10", organ.pitch(0, 58), 5800);
        organ.setRank(0, 3, 2, 0);
        CHECKS.equal("the tone is the key's, not the pipe's", organ.pitch(0, 60), 7907);
    }

    private static void promise9Draw() {
        OrganBuilder organ = new OrganBuilder();
        organ.hold(0, 0, true);
        for (int stop = 0; stop < 12; stop++) {
            CHECKS.no("put back", organ.draw(stop, false));
            CHECKS.no("drawn first", organ.draw(stop, true));
            CHECKS.yes("drawn twice", organ.draw(stop, true));
            CHECKS.equal("it sounds", organ.pipes(), stop % 3 == 0 ? 1 : 0);
            CHECKS.yes("put back then", organ.draw(stop, false));
            CHECKS.no("put back twice", organ.draw(stop, false));
            CHECKS.equal("silent", organ.pipes(), 0);
        }
        for (int stop : new int[] {-1, 12, 32, LOW, HIGH}) {
            CHECKS.outOfRange("draw " + stop, () -> organ.draw(stop, true));
        }
        CHECKS.equal("none is drawn by that", organ.keep(0), 0);
    }

    private static void promise10Keep() {
        OrganBuilder organ = new OrganBuilder();
        CHECKS.equal("keep none", organ.keep(0), 0);
        organ.draw(0, true);
        organ.draw(11, true);
        CHECKS.equal("keep two", organ.keep(7), 2);
        organ.draw(0, false);
        CHECKS.equal("keep one", organ.keep(0), 1);
        for (int registration : new int[] {-1, 8, LOW, HIGH}) {
            CHECKS.outOfRange("keep " + registration, () -> organ.keep(registration));
        }
        CHECKS.equal("kept ones are not changed by drawing", organ.recall(7), 1);
        CHECKS.equal("each has its own", organ.recall(0), 1);
        CHECKS.no("the stop 0 is not in it", organ.draw(0, false));
        CHECKS.yes("the stop 11 is", organ.draw(11, true));
    }

    private static void promise11Recall() {
        OrganBuilder organ = new OrganBuilder();
        organ.draw(0, true);
        organ.draw(1, true);
        organ.keep(3);
        organ.draw(0, false);
        organ.draw(5, true);
        organ.draw(6, true);
        CHECKS.equal("drawn and put back", organ.recall(3), 3);
        CHECKS.yes("0 is drawn", organ.draw(0, true));
        CHECKS.yes("1 is drawn", organ.draw(1, true));
        CHECKS.no("5 is not", organ.draw(5, false));
        CHECKS.no("6 is not", organ.draw(6, false));
        CHECKS.equal("nothing to do", organ.recall(3), 0);
        for (int registration : new int[] {-1, 8, LOW, HIGH}) {
            CHECKS.outOfRange("recall " + registration, () -> organ.recall(registration));
        }
        CHECKS.equal("a refused recall changes nothing", organ.keep(4), 2);
        CHECKS.equal("one never kept is empty", organ.recall(7), 2);
        CHECKS.equal("recall of what was kept last", organ.recall(4), 2);
    }

    private static void promise12Hold() {
        OrganBuilder organ = new OrganBuilder();
        for (int manual = 0; manual < 3; manual++) {
            for (int key : new int[] {0, 1, 31, 32, 59, 60}) {
                CHECKS.no("let go", organ.hold(manual, key, false));
                CHECKS.no("held first", organ.hold(manual, key, true));
                CHECKS.yes("held twice", organ.hold(manual, key, true));
            }
        }
        CHECKS.yes("let go one", organ.hold(1, 32, false));
        CHECKS.no("let go twice", organ.hold(1, 32, false));
        for (int manual : new int[] {-1, 3, LOW, HIGH}) {
            CHECKS.outOfRange("hold manual " + manual, () -> organ.hold(manual, 5, true));
        }
        for (int key : new int[] {-1, 61, 64, LOW, HIGH}) {
            CHECKS.outOfRange("hold key " + key, () -> organ.hold(0, key, true));
            CHECKS.outOfRange("let go key " + key, () -> organ.hold(0, key, false));
        }
        CHECKS.equal("seventeen are held", organ.letGo(), 17);
    }

    private static void promise13LetGo() {
        OrganBuilder organ = organWithStop0();
        organ.hold(0, 0, true);
        organ.hold(1, 0, true);
        organ.hold(2, 60, true);
        organ.couple(2, 0, 0);
        CHECKS.equal("coupled keys do not count", organ.letGo(), 3);
        CHECKS.equal("silent", organ.pipes(), 0);
        CHECKS.equal("none is left", organ.letGo(), 0);
        CHECKS.yes("couplers stay", organ.uncouple(2, 0));
        CHECKS.yes("stops stay", organ.draw(0, true));
    }

    private static void promise14Sound() {
        OrganBuilder organ = organWithStop0();
        CHECKS.equal("nothing sounds", organ.sound(50), 0);
        organ.hold(0, 0, true);
        organ.hold(0, 60, true);
        CHECKS.equal("two sound", organ.sound(1), 2);
        CHECKS.equal("wear of 0", organ.wear(0, 0), 1);
        CHECKS.equal("wear of 60", organ.wear(0, 60), 1);
        CHECKS.equal("wear of 1", organ.wear(0, 1), 0);
        CHECKS.equal("wear of another rank", organ.wear(1, 0), 0);
        for (int times : new int[] {-1, 0, 51, LOW, HIGH}) {
            CHECKS.outOfRange("sound " + times, () -> organ.sound(times));
        }
        CHECKS.equal("a refused sound wears nothing", organ.wear(0, 0), 1);
        CHECKS.equal("up to 49", organ.sound(48), 2);
        CHECKS.equal("49 is not mute", organ.pipes(), 2);
        CHECKS.equal("the count ahead of it", organ.sound(50), 2);
        CHECKS.equal("99", organ.wear(0, 0), 99);
        CHECKS.equal("mute", organ.sound(50), 0);
        CHECKS.equal("a mute pipe does not wear", organ.wear(0, 0), 99);
    }

    private static void promise15Repair() {
        OrganBuilder organ = organWithStop0();
        organ.draw(1, true);
        organ.hold(0, 0, true);
        organ.hold(1, 60, true);
        organ.couple(0, 1, 0);
        organ.sound(49);
        CHECKS.equal("none is mute at 49", organ.repair(0), 0);
        CHECKS.equal("wear is gone", organ.wear(0, 0), 0);
        organ.sound(50);
        CHECKS.equal("all are mute", organ.pipes(), 0);
        CHECKS.equal("another rank", organ.repair(5), 0);
        for (int rank : new int[] {-1, 6, LOW, HIGH}) {
            CHECKS.outOfRange("repair " + rank, () -> organ.repair(rank));
        }
        CHECKS.equal("a refused repair repairs nothing", organ.wear(0, 60), 50);
        CHECKS.equal("two were mute", organ.repair(0), 2);
        CHECKS.equal("they sound again", organ.pipes(), 2);
        CHECKS.equal("no more mute", organ.repair(0), 0);
    }

    private static void promise16Pipes() {
        OrganBuilder organ = new OrganBuilder();
        organ.hold(0, 7, true);
        CHECKS.equal("no stop is drawn", organ.pipes(), 0);
        organ.draw(0, true);
        organ.draw(1, true);
        CHECKS.equal("the manual 1 is not held", organ.pipes(), 1);
        organ.hold(1, 7, true);
        CHECKS.equal("one pipe by two manuals", organ.pipes(), 1);
        organ.hold(1, 8, true);
        CHECKS.equal("two pipes", organ.pipes(), 2);
        organ.draw(3, true);
        CHECKS.equal("two ranks on one manual", organ.pipes(), 3);
        organ.setStop(6, 0, 0);
        organ.draw(6, true);
        CHECKS.equal("two stops of one rank on one manual", organ.pipes(), 3);
        for (int key = 0; key < 61; key++) {
            organ.hold(0, key, true);
        }
        CHECKS.equal("whole ranks", organ.pipes(), 122);
    }

    private static void promise16WaysOverCouplers() {
        int[][] orders = {{0, 1, 2}, {0, 2, 1}, {1, 0, 2}, {1, 2, 0}, {2, 0, 1}, {2, 1, 0}};
        for (int[] order : orders) {
            OrganBuilder organ = new OrganBuilder();
            organ.setStop(0, order[2], 0);
            organ.draw(0, true);
            organ.couple(order[0], order[1], 12);
            organ.couple(order[1], order[2], 12);
            organ.hold(order[0], 36, true);
            CHECKS.yes("over two couplers", organ.sounds(0, 60));
            CHECKS.equal("only that", organ.pipes(), 1);
            organ.couple(order[0], order[2], -12);
            CHECKS.yes("and the short way", organ.sounds(0, 24));
            CHECKS.equal("both", organ.pipes(), 2);
            organ.couple(order[1], order[2], -12);
            organ.hold(order[0], 49, true);
            organ.hold(order[0], 48, true);
            CHECKS.no("a way ends where the key is none", organ.sounds(0, 49));
            CHECKS.yes("60 is a key on the way", organ.sounds(0, 48));
        }
    }

    private static void promise17Sounds() {
        OrganBuilder organ = organWithStop0();
        organ.hold(0, 0, true);
        organ.hold(0, 60, true);
        CHECKS.yes("the key 0", organ.sounds(0, 0));
        CHECKS.yes("the key 60", organ.sounds(0, 60));
        CHECKS.no("the key 32", organ.sounds(0, 32));
        CHECKS.no("another rank", organ.sounds(5, 0));
        organ.sound(50);
        CHECKS.no("a mute pipe", organ.sounds(0, 0));
        for (int rank : new int[] {-1, 6, LOW, HIGH}) {
            CHECKS.outOfRange("sounds rank " + rank, () -> organ.sounds(rank, 0));
        }
        for (int key : new int[] {-1, 61, 64, LOW, HIGH}) {
            CHECKS.outOfRange("sounds key " + key, () -> organ.sounds(0, key));
        }
    }

    private static void promise18Need() {
        int[] keys = {0, 1, 12, 13, 24, 25, 36, 37, 48, 49, 60};
        int[] winds = {5, 4, 4, 3, 3, 2, 2, 1, 1, 0, 0};
        OrganBuilder organ = organWithStop0();
        int sum = 0;
        for (int i = 0; i < keys.length; i++) {
            organ.hold(0, keys[i], true);
            sum += 2 + winds[i];
            CHECKS.equal("need with the key " + keys[i], organ.need(), sum);
        }
        organ.hold(1, 60, true);
        organ.draw(1, true);
        CHECKS.equal("a pipe takes its wind once", organ.need(), sum);
        organ.setSupply(10);
        CHECKS.equal("the supply changes no need", organ.need(), sum);
        organ.sound(50);
        CHECKS.equal("mute pipes take none", organ.need(), 0);
    }

    private static void promise19SagStep() {
        OrganBuilder organ = organWithStop0();
        organ.setRank(0, 1, 9, 0);
        organ.setSupply(10);
        organ.hold(0, 60, true);
        CHECKS.equal("9 of 10", organ.sagStep(), 0);
        organ.setRank(0, 1, 5, 0);
        organ.hold(0, 59, true);
        CHECKS.equal("10 of 10", organ.sagStep(), 0);
        int[] keysOfWind = {48, 36, 24, 12, 0};
        for (int more = 1; more <= 5; more++) {
            organ.hold(0, 59, false);
            organ.hold(0, keysOfWind[more - 1], true);
            CHECKS.equal("need " + (10 + more), organ.need(), 10 + more);
            CHECKS.equal("one more tenth of 10", organ.sagStep(), 1 + more);
            organ.hold(0, keysOfWind[more - 1], false);
        }
        stepsOfAGreatSupply();
    }

    private static void stepsOfAGreatSupply() {
        OrganBuilder organ = organWithStop0();
        organ.setRank(0, 1, 9, 0);
        for (int key = 49; key <= 60; key++) {
            organ.hold(0, key, true);
        }
        int[] supplies = {108, 107, 99, 98, 91, 90, 84, 83, 57, 56, 55, 10};
        int[] steps = {0, 1, 1, 2, 2, 3, 3, 4, 9, 10, 10, 10};
        for (int i = 0; i < supplies.length; i++) {
            organ.setSupply(supplies[i]);
            CHECKS.equal("108 of " + supplies[i], organ.sagStep(), steps[i]);
        }
    }

    private static void promise20Pitch() {
        OrganBuilder organ = organWithStop0();
        organ.hold(0, 0, true);
        organ.setRank(0, 0, 2, -50);
        organ.tune(0, -50);
        CHECKS.equal("a pitch under 0", organ.pitch(0, 0), -1300);
        organ.hold(0, 60, true);
        organ.setRank(0, 3, 2, 50);
        organ.tune(0, 50);
        CHECKS.equal("the highest pitch", organ.pitch(0, 60), 8000);
        CHECKS.wrongState("a silent key", () -> organ.pitch(0, 1));
        CHECKS.wrongState("a silent rank", () -> organ.pitch(1, 0));
        organ.sound(50);
        CHECKS.wrongState("a mute pipe", () -> organ.pitch(0, 60));
        for (int rank : new int[] {-1, 6, LOW, HIGH}) {
            CHECKS.outOfRange("pitch rank " + rank, () -> organ.pitch(rank, 0));
        }
        for (int key : new int[] {-1, 61, 64, LOW, HIGH}) {
            CHECKS.outOfRange("pitch key " + key, () -> organ.pitch(0, key));
        }
    }

    private static void promise20Sag() {
        OrganBuilder organ = organWithStop0();
        organ.setRank(0, 1, 9, 0);
        for (int key = 49; key <= 60; key++) {
            organ.hold(0, key, true);
        }
        organ.setSupply(108);
        CHECKS.equal("no sag", organ.pitch(0, 49), 4900);
        organ.setSupply(107);
        CHECKS.equal("step 1", organ.pitch(0, 49), 4895);
        organ.setSag(1, 100);
        CHECKS.equal("another fall", organ.pitch(0, 49), 4800);
        organ.setSupply(83);
        CHECKS.equal("step 4", organ.pitch(0, 60), 5980);
        organ.setSupply(10);
        CHECKS.equal("step 10", organ.pitch(0, 60), 5950);
        organ.setSag(10, 0);
        CHECKS.equal("a fall of 0", organ.pitch(0, 60), 6000);
    }

    private static void promise21Lowest() {
        OrganBuilder organ = organWithStop0();
        CHECKS.equal("none sounds", organ.lowest(), 0);
        organ.hold(0, 20, true);
        CHECKS.equal("one", organ.lowest(), 2000);
        organ.hold(0, 21, true);
        organ.tune(8, 50);
        organ.tune(9, -50);
        CHECKS.equal("no higher key sounds lower yet", organ.lowest(), 2050);
        organ.draw(3, true);
        organ.setRank(1, 0, 1, 0);
        CHECKS.equal("the rank 1 is the lowest", organ.lowest(), 850);
        organ.setSupply(10);
        CHECKS.equal("less the fall", organ.lowest(), 850 - 5 * organ.sagStep());
        CHECKS.equal("which is some", organ.sagStep(), 9);
        organ.letGo();
        organ.setSupply(100);
        organ.hold(0, 0, true);
        CHECKS.equal("under 0", organ.lowest(), -1200);
        organ.draw(3, false);
        organ.hold(0, 60, true);
        CHECKS.equal("a pitch of 0", organ.lowest(), 0);
        organ.hold(0, 0, false);
        CHECKS.equal("the last key", organ.lowest(), 6000);
        organ.sound(50);
        CHECKS.equal("a mute pipe", organ.lowest(), 0);
        lowestIsNotTheLeastKey();
    }

    private static void lowestIsNotTheLeastKey() {
        OrganBuilder organ = organWithStop0();
        organ.draw(3, true);
        organ.setRank(0, 1, 1, 50);
        organ.setRank(1, 1, 1, -50);
        organ.hold(0, 5, true);
        organ.tune(5, 50);
        organ.tune(6, -50);
        CHECKS.equal("a later rank", organ.lowest(), 500);
        organ.draw(3, false);
        organ.draw(1, true);
        organ.hold(1, 6, true);
        organ.hold(0, 5, true);
        CHECKS.equal("equal ones", organ.lowest(), 600);
    }

    private static void promise22Wear() {
        OrganBuilder organ = organWithStop0();
        organ.hold(0, 60, true);
        organ.sound(7);
        organ.sound(8);
        CHECKS.equal("the sum", organ.wear(0, 60), 15);
        organ.letGo();
        organ.draw(0, false);
        CHECKS.equal("also when it does not sound", organ.wear(0, 60), 15);
        organ.draw(11, true);
        organ.hold(2, 0, true);
        organ.sound(50);
        CHECKS.equal("rank 5", organ.wear(5, 0), 50);
        for (int rank : new int[] {-1, 6, LOW, HIGH}) {
            CHECKS.outOfRange("wear rank " + rank, () -> organ.wear(rank, 0));
        }
        for (int key : new int[] {-1, 61, LOW, HIGH}) {
            CHECKS.outOfRange("wear key " + key, () -> organ.wear(0, key));
        }
    }

    private static void promise23More() {
        OrganBuilder organ = organWithStop0();
        CHECKS.equal("the key 0", organ.more(0, 0), 7);
        CHECKS.equal("the key 60", organ.more(0, 60), 2);
        CHECKS.equal("a manual without a stop", organ.more(1, 0), 0);
        CHECKS.equal("it is not held by that", organ.pipes(), 0);
        CHECKS.no("no key is", organ.hold(0, 0, true));
        CHECKS.equal("a held key", organ.more(0, 0), 0);
        CHECKS.equal("a key beside it", organ.more(0, 12), 6);
        organ.couple(1, 0, 12);
        CHECKS.equal("a coupled key", organ.more(1, 0), 6);
        organ.couple(2, 1, -12);
        CHECKS.equal("a key that sounds by another way", organ.more(2, 12), 6);
        CHECKS.equal("over two couplers to a held key", organ.more(2, 0), 0);
        organ.draw(2, true);
        CHECKS.equal("also by its own stop", organ.more(2, 12), 12);
        organ.sound(50);
        CHECKS.equal("held and mute", organ.more(0, 0), 0);
        organ.letGo();
        CHECKS.equal("mute pipes take none", organ.more(0, 0), 0);
        CHECKS.equal("need stays", organ.need(), 0);
        for (int manual : new int[] {-1, 3, LOW, HIGH}) {
            CHECKS.outOfRange("more manual " + manual, () -> organ.more(manual, 0));
        }
        for (int key : new int[] {-1, 61, 64, LOW, HIGH}) {
            CHECKS.outOfRange("more key " + key, () -> organ.more(0, key));
        }
    }
}
