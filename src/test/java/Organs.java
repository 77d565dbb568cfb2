/** Organs that several tests begin with, in few calls: an object has 512. */
final class Organs {
    private Organs() {
    }

    /** The stop 0 is drawn: the manual 0 with the rank 0. */
    static OrganBuilder withStop0() {
        OrganBuilder organ = new OrganBuilder();
        organ.draw(0, true);
        return organ;
    }

    /** The stops 0 to 5 are drawn, all on the manual 0, each with the rank of its number. */
    static OrganBuilder withAllRanks() {
        OrganBuilder organ = new OrganBuilder();
        for (int stop = 0; stop < 6; stop++) {
            organ.setStop(stop, 0, stop);
            organ.draw(stop, true);
        }
        return organ;
    }

    /** All 366 pipes sound, by the keys of the manual 0. */
    static OrganBuilder full() {
        OrganBuilder organ = withAllRanks();
        holdKeys(organ, 0, 0, 60);
        return organ;
    }

    /**
     * The need is what is asked for, from 0 to 224: the pipes of the keys 49 to 60 take their
     * rank's wind alone, which is 9 for the ranks 0 and 1 and 1 for the rank 2. From 9 on, the
     * pipe of the rank 0 and the key 60 is among those that sound.
     */
    static OrganBuilder ofNeed(int need) {
        OrganBuilder organ = new OrganBuilder();
        for (int stop = 0; stop < 3; stop++) {
            organ.setStop(stop, stop, stop);
            organ.setRank(stop, 1, stop < 2 ? 9 : 1, 0);
            organ.draw(stop, true);
        }
        for (int nine = 0; nine < need / 9; nine++) {
            organ.hold(nine / 12, 60 - nine % 12, true);
        }
        for (int one = 0; one < need % 9; one++) {
            organ.hold(2, 60 - one, true);
        }
        return organ;
    }

    /** Holds the keys of a manual from the least to the most, both of them too. */
    static void holdKeys(OrganBuilder organ, int manual, int least, int most) {
        for (int key = least; key <= most; key++) {
            organ.hold(manual, key, true);
        }
    }

    static void drawAll(OrganBuilder organ) {
        for (int stop = 0; stop < 12; stop++) {
            organ.draw(stop, true);
        }
    }
}
