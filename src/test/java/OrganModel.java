import java.util.ArrayDeque;
import java.util.Arrays;
import java.util.Deque;
import java.util.HashMap;
import java.util.HashSet;
import java.util.Map;
import java.util.Set;
import java.util.TreeMap;

/**
 * A second reading of the document, slow and by sets of pairs, to hold the program against. Its
 * answers are numbers (a boolean counts 1 or 0); ARGUMENT and STATE stand for the two exceptions.
 */
final class OrganModel {
    static final long ARGUMENT = Long.MIN_VALUE;
    static final long STATE = Long.MIN_VALUE + 1;

    private record Coupler(int from, int to) {
    }

    private record Key(int manual, int key) {
    }

    private record Pipe(int rank, int key) {
    }

    private static final Map<Integer, Integer> HALF_TONES = Map.of(0, -12, 1, 0, 2, 12, 3, 19);

    private final int[] kind = {1, 1, 1, 1, 1, 1};
    private final int[] wind = {2, 2, 2, 2, 2, 2};
    private final int[] detune = new int[6];
    private final int[] manualOf = {0, 1, 2, 0, 1, 2, 0, 1, 2, 0, 1, 2};
    private final int[] rankOf = {0, 0, 1, 1, 2, 2, 3, 3, 4, 4, 5, 5};
    private final Map<Coupler, Integer> couplers = new HashMap<>();
    private final Set<Key> held = new HashSet<>();
    private final Map<Pipe, Integer> wears = new HashMap<>();
    private final Map<Integer, Set<Integer>> kept = new HashMap<>();
    private final TreeMap<Integer, Integer> falls = new TreeMap<>();
    private final int[] offset = new int[12];
    private Set<Integer> drawn = new HashSet<>();
    private int supply = 100;

    OrganModel() {
        for (int step = 1; step <= 10; step++) {
            falls.put(step, 5 * step);
        }
    }

    private static boolean outside(int value, int least, int most) {
        return value < least || most < value;
    }

    private static long number(boolean answer) {
        return answer ? 1 : 0;
    }

    long setRank(int rank, int newKind, int newWind, int newDetune) {
        if (outside(rank, 0, 5) || outside(newKind, 0, 3) || outside(newWind, 1, 9)
                || outside(newDetune, -50, 50)) {
            return ARGUMENT;
        }
        kind[rank] = newKind;
        wind[rank] = newWind;
        detune[rank] = newDetune;
        return 0;
    }

    long setStop(int stop, int manual, int rank) {
        if (outside(stop, 0, 11) || outside(manual, 0, 2) || outside(rank, 0, 5)) {
            return ARGUMENT;
        }
        if (drawn.contains(stop)) {
            return STATE;
        }
        manualOf[stop] = manual;
        rankOf[stop] = rank;
        return 0;
    }

    long couple(int from, int to, int shift) {
        if (outside(from, 0, 2) || outside(to, 0, 2) || from == to
                || !Set.of(-12, 0, 12).contains(shift)) {
            return ARGUMENT;
        }
        Map<Coupler, Integer> then = new HashMap<>(couplers);
        then.put(new Coupler(from, to), shift);
        if (hasRing(then.keySet())) {
            return STATE;
        }
        couplers.put(new Coupler(from, to), shift);
        return couplers.size();
    }

    /** Takes away manuals that no coupler goes to, until none is left or a ring is. */
    private static boolean hasRing(Set<Coupler> all) {
        Set<Coupler> left = new HashSet<>(all);
        for (int round = 0; round < 3; round++) {
            Set<Integer> reached = new HashSet<>();
            left.forEach(coupler -> reached.add(coupler.to()));
            left.removeIf(coupler -> !reached.contains(coupler.from()));
        }
        return !left.isEmpty();
    }

    long uncouple(int from, int to) {
        if (outside(from, 0, 2) || outside(to, 0, 2)) {
            return ARGUMENT;
        }
        return number(couplers.remove(new Coupler(from, to)) != null);
    }

    long setSupply(int newSupply) {
        if (outside(newSupply, 10, 1000)) {
            return ARGUMENT;
        }
        long before = supply;
        supply = newSupply;
        return before;
    }

    long setSag(int step, int fall) {
        if (outside(step, 1, 10) || outside(fall, 0, 100)) {
            return ARGUMENT;
        }
        return falls.put(step, fall);
    }

    long tune(int tone, int newOffset) {
        if (outside(tone, 0, 11) || outside(newOffset, -50, 50)) {
            return ARGUMENT;
        }
        long before = offset[tone];
        offset[tone] = newOffset;
        return before;
    }

    long draw(int stop, boolean isDrawn) {
        if (outside(stop, 0, 11)) {
            return ARGUMENT;
        }
        return number(isDrawn ? !drawn.add(stop) : drawn.remove(stop));
    }

    long keep(int registration) {
        if (outside(registration, 0, 7)) {
            return ARGUMENT;
        }
        kept.put(registration, new HashSet<>(drawn));
        return drawn.size();
    }

    long recall(int registration) {
        if (outside(registration, 0, 7)) {
            return ARGUMENT;
        }
        Set<Integer> then = new HashSet<>(kept.getOrDefault(registration, Set.of()));
        long changed = 0;
        for (int stop = 0; stop < 12; stop++) {
            if (drawn.contains(stop) != then.contains(stop)) {
                changed++;
            }
        }
        drawn = then;
        return changed;
    }

    long hold(int manual, int key, boolean isHeld) {
        if (outside(manual, 0, 2) || outside(key, 0, 60)) {
            return ARGUMENT;
        }
        Key one = new Key(manual, key);
        return number(isHeld ? !held.add(one) : held.remove(one));
    }

    long letGo() {
        long count = held.size();
        held.clear();
        return count;
    }

    long sound(int times) {
        if (outside(times, 1, 50)) {
            return ARGUMENT;
        }
        Set<Pipe> sounding = sounding(held);
        sounding.forEach(pipe -> wears.merge(pipe, times, Integer::sum));
        return sounding.size();
    }

    long repair(int rank) {
        if (outside(rank, 0, 5)) {
            return ARGUMENT;
        }
        long mute = wears.keySet().stream().filter(p -> p.rank() == rank && isMute(p)).count();
        wears.keySet().removeIf(pipe -> pipe.rank() == rank);
        return mute;
    }

    long pipes() {
        return sounding(held).size();
    }

    long sounds(int rank, int key) {
        if (outside(rank, 0, 5) || outside(key, 0, 60)) {
            return ARGUMENT;
        }
        return number(sounding(held).contains(new Pipe(rank, key)));
    }

    long need() {
        return needOf(held);
    }

    long sagStep() {
        long excess = need() - supply;
        return excess <= 0 ? 0 : Math.min(10, 1 + Math.floorDiv(10 * excess, (long) supply));
    }

    long pitch(int rank, int key) {
        if (outside(rank, 0, 5) || outside(key, 0, 60)) {
            return ARGUMENT;
        }
        Pipe pipe = new Pipe(rank, key);
        return sounding(held).contains(pipe) ? pitchOf(pipe) : STATE;
    }

    long lowest() {
        return sounding(held).stream().mapToLong(this::pitchOf).min().orElse(0);
    }

    long wear(int rank, int key) {
        if (outside(rank, 0, 5) || outside(key, 0, 60)) {
            return ARGUMENT;
        }
        return wears.getOrDefault(new Pipe(rank, key), 0);
    }

    long more(int manual, int key) {
        if (outside(manual, 0, 2) || outside(key, 0, 60)) {
            return ARGUMENT;
        }
        Key one = new Key(manual, key);
        if (held.contains(one)) {
            return 0;
        }
        Set<Key> with = new HashSet<>(held);
        with.add(one);
        return needOf(with) - needOf(held);
    }

    private boolean isMute(Pipe pipe) {
        return wears.getOrDefault(pipe, 0) >= 50;
    }

    private Set<Key> coupled(Set<Key> keys) {
        Set<Key> all = new HashSet<>(keys);
        Deque<Key> open = new ArrayDeque<>(keys);
        while (!open.isEmpty()) {
            Key key = open.pop();
            couplers.forEach((coupler, shift) -> {
                Key next = new Key(coupler.to(), key.key() + shift);
                if (coupler.from() == key.manual() && !outside(next.key(), 0, 60) && all.add(next)) {
                    open.push(next);
                }
            });
        }
        return all;
    }

    private Set<Pipe> sounding(Set<Key> keys) {
        Set<Pipe> sounding = new HashSet<>();
        for (Key key : coupled(keys)) {
            for (int stop : drawn) {
                if (manualOf[stop] == key.manual()) {
                    sounding.add(new Pipe(rankOf[stop], key.key()));
                }
            }
        }
        sounding.removeIf(this::isMute);
        return sounding;
    }

    private long needOf(Set<Key> keys) {
        return sounding(keys).stream().mapToLong(p -> wind[p.rank()] + (60 - p.key()) / 12).sum();
    }

    private long pitchOf(Pipe pipe) {
        long step = sagStep();
        return 100L * (pipe.key() + HALF_TONES.get(kind[pipe.rank()])) + offset[pipe.key() % 12]
                + detune[pipe.rank()] - (step == 0 ? 0 : falls.get((int) step));
    }

    @Override
    public String toString() {
        return "couplers " + couplers + ", drawn " + drawn + ", manuals " + Arrays.toString(manualOf);
    }
}
