/**
 * Every choice of couplers: for each of the six ways between two manuals none or one of the three
 * shifts, added in two orders. OrganModel says which of them go round in a ring and what sounds.
 */
public final class CouplersTest {
    private static final int[][] WAYS = {{0, 1}, {0, 2}, {1, 0}, {1, 2}, {2, 0}, {2, 1}};
    private static final int NONE = 1;
    private static final int[] SHIFTS = {NONE, -12, 0, 12};
    private static final int CHOICES = 4 * 4 * 4 * 4 * 4 * 4;
    private static final int[] KEYS = {0, 11, 12, 30, 48, 49, 60};
    private static final Checks CHECKS = new Checks();

    private final OrganBuilder organ = new OrganBuilder();
    private final OrganModel model = new OrganModel();
    private final String what;

    private CouplersTest(String what) {
        this.what = what;
    }

    public static void main(String[] args) {
        CHECKS.about("No coupler can be added by which one would come from a manual over couplers to"
                + " the same one");
        for (int choice = 0; choice < CHOICES; choice++) {
            new CouplersTest("choice " + choice).compareWith(choice, false);
            new CouplersTest("choice " + choice + ", the last way first").compareWith(choice, true);
        }
        CHECKS.end("CouplersTest");
    }

    private void compareWith(int choice, boolean lastFirst) {
        drawAStopForEachManual();
        for (int i = 0; i < WAYS.length; i++) {
            int way = lastFirst ? WAYS.length - 1 - i : i;
            int shift = SHIFTS[choice >> (2 * way) & 3];
            if (shift != NONE) {
                compareCouple(WAYS[way][0], WAYS[way][1], shift);
            }
        }
        for (int manual = 0; manual < 3; manual++) {
            for (int key : KEYS) {
                compareKey(manual, key);
            }
        }
        for (int[] way : WAYS) {
            CHECKS.equal(what + ", uncouple " + way[0] + " to " + way[1],
                    organ.uncouple(way[0], way[1]) ? 1 : 0, model.uncouple(way[0], way[1]));
        }
    }

    /** The rank of the manual's own number: what sounds on it is what is coupled there. */
    private void drawAStopForEachManual() {
        for (int manual = 0; manual < 3; manual++) {
            organ.setStop(manual, manual, manual);
            organ.draw(manual, true);
            model.setStop(manual, manual, manual);
            model.draw(manual, true);
        }
    }

    private void compareCouple(int from, int to, int shift) {
        String call = what + ", couple " + from + " to " + to + " by " + shift;
        long due = model.couple(from, to, shift);
        if (due == OrganModel.STATE) {
            CHECKS.wrongState(call, () -> organ.couple(from, to, shift));
        } else {
            CHECKS.equal(call, organ.couple(from, to, shift), due);
        }
    }

    private void compareKey(int manual, int key) {
        String held = what + ", the key " + key + " of the manual " + manual;
        CHECKS.equal(held + ", more", organ.more(manual, key), model.more(manual, key));
        organ.hold(manual, key, true);
        model.hold(manual, key, true);
        CHECKS.equal(held + ", pipes", organ.pipes(), model.pipes());
        for (int rank = 0; rank < 3; rank++) {
            for (int pipe = Math.max(0, key - 24); pipe <= Math.min(60, key + 24); pipe += 12) {
                CHECKS.equal(held + ", the pipe " + pipe + " of " + rank,
                        organ.sounds(rank, pipe) ? 1 : 0, model.sounds(rank, pipe));
            }
        }
        organ.letGo();
        model.letGo();
    }
}
