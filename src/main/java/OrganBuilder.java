/**
 * An organ: ranks of pipes, stops on three manuals, couplers, keys that are held, wind, sag,
 * tuning, registrations, and wear.
 *
 * <p>A set of keys is a long with one bit for each of the 61 keys, a set of stops an int with one
 * bit for each of the 12 stops. No call makes an object but the exception that it throws.
 */
public final class OrganBuilder {
    private static final int MANUALS = 3;
    private static final int KEYS = 61;
    private static final int RANKS = 6;
    private static final int KINDS = 4;
    private static final int STOPS = 12;
    private static final int TONES = 12;
    private static final int REGISTRATIONS = 8;

    private static final int[] HALF_TONES_OF_KINDS = {-12, 0, 12, 19};
    private static final int FIRST_KIND = 1;
    private static final int LEAST_WIND = 1;
    private static final int MOST_WIND = 9;
    private static final int FIRST_WIND = 2;
    private static final int KEYS_PER_WIND = 12;
    private static final int MOST_DETUNE = 50;
    private static final int MOST_OFFSET = 50;

    private static final int COUPLED_SHIFT = 12;
    // No coupler has this shift, so it stands where there is no coupler.
    private static final int NO_COUPLER = 1;

    private static final int LEAST_SUPPLY = 10;
    private static final int MOST_SUPPLY = 1000;
    private static final int FIRST_SUPPLY = 100;
    private static final int SAG_STEPS = 10;
    private static final int MOST_FALL = 100;
    private static final int FIRST_FALL_PER_STEP = 5;

    private static final int MOST_TIMES = 50;
    private static final int MUTE_WEAR = 50;

    private static final long ALL_KEYS = (1L << KEYS) - 1L;
    private static final long NO_KEYS = 0L;

    private final int[] halfTones = new int[RANKS];
    private final int[] winds = new int[RANKS];
    private final int[] detunes = new int[RANKS];
    private final int[][] wears = new int[RANKS][KEYS];

    private final int[] stopManuals = new int[STOPS];
    private final int[] stopRanks = new int[STOPS];
    private int drawnStops;
    private final int[] keptStops = new int[REGISTRATIONS];

    private final int[][] shifts = new int[MANUALS][MANUALS];
    private final long[] heldKeys = new long[MANUALS];

    private int supply;
    // The fall of the step 0 stands here too, and stays 0.
    private final int[] falls = new int[SAG_STEPS + 1];
    private final int[] offsets = new int[TONES];

    // These two rows are found anew by each call that asks what sounds; they keep nothing.
    private final long[] reachedKeys = new long[MANUALS];
    private final long[] soundingKeys = new long[RANKS];

    public OrganBuilder() {
        for (int rank = 0; rank < RANKS; rank++) {
            halfTones[rank] = HALF_TONES_OF_KINDS[FIRST_KIND];
            winds[rank] = FIRST_WIND;
        }
        for (int stop = 0; stop < STOPS; stop++) {
            stopManuals[stop] = stop % MANUALS;
            stopRanks[stop] = stop / 2;
        }
        for (int from = 0; from < MANUALS; from++) {
            for (int to = 0; to < MANUALS; to++) {
                shifts[from][to] = NO_COUPLER;
            }
        }
        for (int step = 1; step <= SAG_STEPS; step++) {
            falls[step] = FIRST_FALL_PER_STEP * step;
        }
        supply = FIRST_SUPPLY;
    }

    // ---- building

    public void setRank(int rank, int kind, int wind, int detune) throws IllegalArgumentException {
        checkRank(rank);
        checkRange(kind, 0, KINDS - 1);
        checkRange(wind, LEAST_WIND, MOST_WIND);
        checkRange(detune, -MOST_DETUNE, MOST_DETUNE);
        halfTones[rank] = HALF_TONES_OF_KINDS[kind];
        winds[rank] = wind;
        detunes[rank] = detune;
    }

    public void setStop(int stop, int manual, int rank)
            throws IllegalArgumentException, IllegalStateException {
        checkStop(stop);
        checkManual(manual);
        checkRank(rank);
        if (isDrawn(stop)) {
            throw new IllegalStateException("the stop is drawn");
        }
        stopManuals[stop] = manual;
        stopRanks[stop] = rank;
    }

    public int couple(int from, int to, int shift)
            throws IllegalArgumentException, IllegalStateException {
        checkManual(from);
        checkManual(to);
        if (from == to) {
            throw new IllegalArgumentException("a coupler goes to another manual");
        }
        if (shift != 0 && shift != COUPLED_SHIFT && shift != -COUPLED_SHIFT) {
            throw new IllegalArgumentException("a shift is -12, 0 or 12");
        }
        if (leadsTo(to, from)) {
            throw new IllegalStateException("the couplers would go round in a ring");
        }
        shifts[from][to] = shift;
        return countCouplers();
    }

    public boolean uncouple(int from, int to) throws IllegalArgumentException {
        checkManual(from);
        checkManual(to);
        boolean wasThere = isCoupled(from, to);
        shifts[from][to] = NO_COUPLER;
        return wasThere;
    }

    public int setSupply(int wind) throws IllegalArgumentException {
        checkRange(wind, LEAST_SUPPLY, MOST_SUPPLY);
        int before = supply;
        supply = wind;
        return before;
    }

    public int setSag(int step, int fall) throws IllegalArgumentException {
        checkRange(step, 1, SAG_STEPS);
        checkRange(fall, 0, MOST_FALL);
        int before = falls[step];
        falls[step] = fall;
        return before;
    }

    public int tune(int tone, int offset) throws IllegalArgumentException {
        checkRange(tone, 0, TONES - 1);
        checkRange(offset, -MOST_OFFSET, MOST_OFFSET);
        int before = offsets[tone];
        offsets[tone] = offset;
        return before;
    }

    // ---- playing

    public boolean draw(int stop, boolean drawn) throws IllegalArgumentException {
        checkStop(stop);
        boolean before = isDrawn(stop);
        if (before != drawn) {
            drawnStops ^= 1 << stop;
        }
        return before;
    }

    public int keep(int registration) throws IllegalArgumentException {
        checkRange(registration, 0, REGISTRATIONS - 1);
        keptStops[registration] = drawnStops;
        return Integer.bitCount(drawnStops);
    }

    public int recall(int registration) throws IllegalArgumentException {
        checkRange(registration, 0, REGISTRATIONS - 1);
        int changed = drawnStops ^ keptStops[registration];
        drawnStops = keptStops[registration];
        return Integer.bitCount(changed);
    }

    public boolean hold(int manual, int key, boolean held) throws IllegalArgumentException {
        checkManual(manual);
        checkKey(key);
        boolean before = hasKey(heldKeys[manual], key);
        if (before != held) {
            heldKeys[manual] ^= keyBit(key);
        }
        return before;
    }

    public int letGo() {
        int held = 0;
        for (int manual = 0; manual < MANUALS; manual++) {
            held += Long.bitCount(heldKeys[manual]);
            heldKeys[manual] = NO_KEYS;
        }
        return held;
    }

    public int sound(int times) throws IllegalArgumentException {
        checkRange(times, 1, MOST_TIMES);
        findSounding();
        for (int rank = 0; rank < RANKS; rank++) {
            wearOut(rank, times);
        }
        return countSounding();
    }

    public int repair(int rank) throws IllegalArgumentException {
        checkRank(rank);
        int mute = Long.bitCount(mutePipes(rank));
        for (int key = 0; key < KEYS; key++) {
            wears[rank][key] = 0;
        }
        return mute;
    }

    // ---- what sounds

    public int pipes() {
        findSounding();
        return countSounding();
    }

    public boolean sounds(int rank, int key) throws IllegalArgumentException {
        checkRank(rank);
        checkKey(key);
        findSounding();
        return hasKey(soundingKeys[rank], key);
    }

    public int need() {
        findSounding();
        return windOfSounding();
    }

    public int sagStep() {
        findSounding();
        return stepOfSag(windOfSounding());
    }

    public int pitch(int rank, int key) throws IllegalArgumentException, IllegalStateException {
        checkRank(rank);
        checkKey(key);
        findSounding();
        if (!hasKey(soundingKeys[rank], key)) {
            throw new IllegalStateException("the pipe does not sound");
        }
        return pitchWithoutSag(rank, key) - fallOfSag();
    }

    public int lowest() {
        findSounding();
        // A pitch may be 0 or less, so no pitch can stand for "none yet".
        boolean found = false;
        int least = 0;
        for (int rank = 0; rank < RANKS; rank++) {
            for (int key = 0; key < KEYS; key++) {
                if (hasKey(soundingKeys[rank], key)) {
                    int pitch = pitchWithoutSag(rank, key);
                    least = found ? Math.min(least, pitch) : pitch;
                    found = true;
                }
            }
        }
        return found ? least - fallOfSag() : 0;
    }

    public int wear(int rank, int key) throws IllegalArgumentException {
        checkRank(rank);
        checkKey(key);
        return wears[rank][key];
    }

    public int more(int manual, int key) throws IllegalArgumentException {
        checkManual(manual);
        checkKey(key);
        findSounding();
        int without = windOfSounding();
        findSoundingWith(manual, keyBit(key));
        return windOfSounding() - without;
    }

    // ---- what parameters may be

    private static void checkRange(int value, int least, int most) {
        if (value < least || value > most) {
            throw new IllegalArgumentException("a parameter is out of range");
        }
    }

    private static void checkManual(int manual) {
        checkRange(manual, 0, MANUALS - 1);
    }

    private static void checkKey(int key) {
        checkRange(key, 0, KEYS - 1);
    }

    private static void checkRank(int rank) {
        checkRange(rank, 0, RANKS - 1);
    }

    private static void checkStop(int stop) {
        checkRange(stop, 0, STOPS - 1);
    }

    // ---- sets of keys and of stops

    private static long keyBit(int key) {
        return 1L << key;
    }

    private static boolean hasKey(long keys, int key) {
        return (keys & keyBit(key)) != 0L;
    }

    private static long shifted(long keys, int shift) {
        if (shift > 0) {
            return (keys << shift) & ALL_KEYS;
        }
        return keys >>> -shift;
    }

    private boolean isDrawn(int stop) {
        return (drawnStops & (1 << stop)) != 0;
    }

    // ---- couplers

    private boolean isCoupled(int from, int to) {
        return shifts[from][to] != NO_COUPLER;
    }

    private int countCouplers() {
        int couplers = 0;
        for (int from = 0; from < MANUALS; from++) {
            for (int to = 0; to < MANUALS; to++) {
                if (isCoupled(from, to)) {
                    couplers++;
                }
            }
        }
        return couplers;
    }

    // Between two of three manuals there is one other at most, so a way has one or two couplers.
    private boolean leadsTo(int from, int to) {
        if (isCoupled(from, to)) {
            return true;
        }
        for (int between = 0; between < MANUALS; between++) {
            if (isCoupled(from, between) && isCoupled(between, to)) {
                return true;
            }
        }
        return false;
    }

    private void findReached(int manual, long moreKeys) {
        for (int each = 0; each < MANUALS; each++) {
            reachedKeys[each] = heldKeys[each];
        }
        reachedKeys[manual] |= moreKeys;
        // Each pass follows every way by a coupler at least, and no way without a ring has more.
        for (int pass = 1; pass < MANUALS; pass++) {
            followCouplers();
        }
    }

    private void followCouplers() {
        for (int from = 0; from < MANUALS; from++) {
            for (int to = 0; to < MANUALS; to++) {
                if (isCoupled(from, to)) {
                    reachedKeys[to] |= shifted(reachedKeys[from], shifts[from][to]);
                }
            }
        }
    }

    // ---- pipes that sound

    private void findSounding() {
        findSoundingWith(0, NO_KEYS);
    }

    private void findSoundingWith(int manual, long moreKeys) {
        findReached(manual, moreKeys);
        for (int rank = 0; rank < RANKS; rank++) {
            soundingKeys[rank] = keysOfDrawnStops(rank) & ~mutePipes(rank);
        }
    }

    private long keysOfDrawnStops(int rank) {
        long keys = NO_KEYS;
        for (int stop = 0; stop < STOPS; stop++) {
            if (isDrawn(stop) && stopRanks[stop] == rank) {
                keys |= keysReachedBy(stop);
            }
        }
        return keys;
    }

    // The manuals are gone through so that no kept number is ever an index.
    private long keysReachedBy(int stop) {
        long keys = NO_KEYS;
        for (int manual = 0; manual < MANUALS; manual++) {
            if (stopManuals[stop] == manual) {
                keys = reachedKeys[manual];
            }
        }
        return keys;
    }

    private int countSounding() {
        int count = 0;
        for (int rank = 0; rank < RANKS; rank++) {
            count += Long.bitCount(soundingKeys[rank]);
        }
        return count;
    }

    // ---- wear

    private long mutePipes(int rank) {
        long mute = NO_KEYS;
        for (int key = 0; key < KEYS; key++) {
            if (wears[rank][key] >= MUTE_WEAR) {
                mute |= keyBit(key);
            }
        }
        return mute;
    }

    private void wearOut(int rank, int times) {
        for (int key = 0; key < KEYS; key++) {
            if (hasKey(soundingKeys[rank], key)) {
                wears[rank][key] += times;
            }
        }
    }

    // ---- wind and pitch

    private int windOfSounding() {
        int wind = 0;
        for (int rank = 0; rank < RANKS; rank++) {
            for (int key = 0; key < KEYS; key++) {
                if (hasKey(soundingKeys[rank], key)) {
                    wind += winds[rank] + (KEYS - 1 - key) / KEYS_PER_WIND;
                }
            }
        }
        return wind;
    }

    private int stepOfSag(int wind) {
        // The supply is never under its least; the test stands here because it divides.
        if (wind <= supply || supply < LEAST_SUPPLY) {
            return 0;
        }
        return Math.min(SAG_STEPS, 1 + 10 * (wind - supply) / supply);
    }

    private int fallOfSag() {
        int step = stepOfSag(windOfSounding());
        return step >= 0 && step <= SAG_STEPS ? falls[step] : 0;
    }

    private int pitchWithoutSag(int rank, int key) {
        return 100 * (key + halfTones[rank]) + offsets[key % TONES] + detunes[rank];
    }
}
