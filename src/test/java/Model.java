import java.util.ArrayList;
import java.util.Comparator;
import java.util.List;
import java.util.TreeMap;

/**
 * The document once more, told as plainly and as slowly as can be, for RandomRunsTest: levels are
 * replayed from a log of what has begun, places are sought by sorting, sums are made anew.
 */
final class Model {
    private static final int NONE = -1;
    private static final int[] WEIGHT = {4, 9, 12, 25};
    private static final int[] WATTS = {1000, 750, 500, 800};
    private static final int[] WIDTH = {1, 1, 4, 12};

    private static final class Lamp {
        int kind;
        int colour;
        int burn;
        int bar = NONE;
        int place;
        int first = NONE;
        int circuit = NONE;
        boolean dead;
    }

    private static final class Cue {
        int fade;
        int curve;
        int follow;
        TreeMap<Integer, Integer> levels = new TreeMap<>();
    }

    /** A cue that has begun, with what it named then. */
    private static final class Begun {
        Cue cue;
        long at;
        TreeMap<Integer, Integer> levels;
    }

    private final List<Lamp> lamps = new ArrayList<>();
    private final List<List<int[]>> houses = List.of(new ArrayList<>(), new ArrayList<>());
    private final List<Cue> cues = new ArrayList<>();
    private final List<Begun> log = new ArrayList<>();
    private int house = 0;
    private long now = 0;

    private static void index(boolean holds) {
        if (!holds) {
            throw new IndexOutOfBoundsException();
        }
    }

    private static void argument(boolean holds) {
        if (!holds) {
            throw new IllegalArgumentException();
        }
    }

    private static void state(boolean holds) {
        if (!holds) {
            throw new IllegalStateException();
        }
    }

    private static boolean in(int value, int low, int high) {
        return low <= value && value <= high;
    }

    private Lamp at(int lamp) {
        index(in(lamp, 0, lamps.size() - 1));
        return lamps.get(lamp);
    }

    private List<int[]> bars() {
        return houses.get(house);
    }

    int bar(int where, int length, int limit) {
        index(where == 0 || where == 1);
        argument(in(length, 0, 100) && in(limit, 1, 500));
        state(houses.get(where).size() < 4);
        houses.get(where).add(new int[] {length, limit});
        return houses.get(where).size() - 1;
    }

    int lamp(int kind, int colour) {
        argument(in(kind, 0, 3) && in(colour, 0, 20));
        state(lamps.size() < 10);
        Lamp lamp = new Lamp();
        lamp.kind = kind;
        lamp.colour = colour;
        lamps.add(lamp);
        return lamps.size() - 1;
    }

    private boolean canHang(Lamp lamp, int bar, int place) {
        if (!in(place, 0, bars().get(bar)[0])) {
            return false;
        }
        int weight = WEIGHT[lamp.kind];
        for (Lamp other : lamps) {
            if (other != lamp && other.bar == bar) {
                weight += WEIGHT[other.kind];
                if (Math.abs(other.place - place) < 3) {
                    return false;
                }
            }
        }
        return weight <= bars().get(bar)[1];
    }

    int hang(int number, int bar, int place) {
        Lamp lamp = at(number);
        index(in(bar, 0, bars().size() - 1));
        index(in(place, 0, bars().get(bar)[0]));
        state(canHang(lamp, bar, place));
        lamp.bar = bar;
        lamp.place = place;
        return lamps.stream().filter(other -> other.bar == bar).mapToInt(other -> WEIGHT[other.kind]).sum();
    }

    boolean down(int number) {
        Lamp lamp = at(number);
        boolean hung = lamp.bar != NONE;
        lamp.bar = NONE;
        return hung;
    }

    int onBar(int bar, int rank) {
        index(in(bar, 0, bars().size() - 1));
        List<Lamp> there = new ArrayList<>(lamps);
        there.removeIf(lamp -> lamp.bar != bar);
        there.sort(Comparator.comparingInt(lamp -> lamp.place));
        index(in(rank, 0, there.size() - 1));
        return lamps.indexOf(there.get(rank));
    }

    int where(int number) {
        Lamp lamp = at(number);
        return lamp.bar == NONE ? NONE : 1000 * lamp.bar + lamp.place;
    }

    int tour() {
        int[] former = lamps.stream().mapToInt(lamp -> lamp.bar).toArray();
        lamps.forEach(lamp -> lamp.bar = NONE);
        house = 1 - house;
        int lost = 0;
        for (int number = 0; number < former.length; number++) {
            if (former[number] != NONE && !hangsAgain(lamps.get(number), former[number])) {
                lost++;
            }
        }
        return lost;
    }

    private boolean hangsAgain(Lamp lamp, int bar) {
        if (bar >= bars().size()) {
            return false;
        }
        int best = NONE;
        for (int place = bars().get(bar)[0]; place >= 0; place--) {
            boolean nearer = best == NONE || Math.abs(place - lamp.place) <= Math.abs(best - lamp.place);
            if (nearer && canHang(lamp, bar, place)) {
                best = place;
            }
        }
        if (best != NONE) {
            lamp.bar = bar;
            lamp.place = best;
        }
        return best != NONE;
    }

    private int[] holders() {
        int[] many = new int[100];
        for (Lamp lamp : lamps) {
            for (int k = 0; lamp.first != NONE && k < WIDTH[lamp.kind]; k++) {
                many[lamp.first + k]++;
            }
        }
        return many;
    }

    int patch(int number, int first) {
        Lamp lamp = at(number);
        argument(in(first, NONE, 100 - WIDTH[lamp.kind]));
        lamp.first = first;
        int doubles = 0;
        for (int many : holders()) {
            doubles += many >= 2 ? 1 : 0;
        }
        return doubles;
    }

    int gap(int many) {
        argument(in(many, 1, 100));
        int[] holders = holders();
        for (int from = 0; from + many <= 100; from++) {
            boolean free = true;
            for (int k = from; k < from + many; k++) {
                free &= holders[k] == 0;
            }
            if (free) {
                return from;
            }
        }
        return NONE;
    }

    int plug(int number, int circuit) {
        Lamp lamp = at(number);
        index(in(circuit, NONE, 3));
        int before = lamp.circuit;
        lamp.circuit = circuit;
        return before;
    }

    int load(int circuit) {
        index(in(circuit, 0, 3));
        int sum = 0;
        for (int number = 0; number < lamps.size(); number++) {
            if (lamps.get(number).circuit == circuit) {
                sum += WATTS[lamps.get(number).kind] * level(number) / 100;
            }
        }
        return sum;
    }

    int cue(int fade, int curve, int follow) {
        argument(in(fade, 0, 50) && in(curve, 0, 2) && in(follow, NONE, 50));
        state(cues.size() < 8);
        Cue cue = new Cue();
        cue.fade = fade;
        cue.curve = curve;
        cue.follow = follow;
        cues.add(cue);
        return cues.size() - 1;
    }

    int name(int cue, int lamp, int level) {
        index(in(cue, 0, cues.size() - 1));
        at(lamp);
        argument(in(level, NONE, 100));
        Integer before = level == NONE
                ? cues.get(cue).levels.remove(lamp) : cues.get(cue).levels.put(lamp, level);
        return before == null ? NONE : before;
    }

    private int begin() {
        if (log.size() >= cues.size()) {
            return 0;
        }
        Begun begun = new Begun();
        begun.cue = cues.get(log.size());
        begun.at = now;
        begun.levels = new TreeMap<>(begun.cue.levels);
        log.add(begun);
        return 1 + (begun.cue.follow == 0 ? begin() : 0);
    }

    int go() {
        state(begin() > 0);
        return log.size() - 1;
    }

    int tick(int ticks) {
        argument(in(ticks, 1, 50));
        int begun = 0;
        for (int k = 0; k < ticks; k++) {
            now++;
            if (!log.isEmpty()) {
                Begun last = log.get(log.size() - 1);
                if (last.cue.follow > 0 && now == last.at + last.cue.follow) {
                    begun += begin();
                }
            }
            for (int number = 0; number < lamps.size(); number++) {
                lamps.get(number).burn += level(number) > 80 ? 1 : 0;
            }
        }
        return begun;
    }

    int rewind() {
        int begun = log.size();
        log.clear();
        return begun;
    }

    int level(int number) {
        Lamp lamp = at(number);
        return lamp.bar == NONE || lamp.dead ? 0 : wanted(number);
    }

    int wanted(int number) {
        at(number);
        return replayed(number, log.size(), now);
    }

    /** The wanted level at a time, by the first cues of the log alone. */
    private int replayed(int number, int many, long time) {
        int k = many - 1;
        while (k >= 0 && !log.get(k).levels.containsKey(number)) {
            k--;
        }
        if (k < 0) {
            return 0;
        }
        Begun begun = log.get(k);
        int a = replayed(number, k, begun.at);
        int b = begun.levels.get(number);
        long d = time - begun.at;
        int f = begun.cue.fade;
        if (d >= f) {
            return b;
        }
        long up = begun.cue.curve == 0 ? d : d * d;
        long down = begun.cue.curve == 0 ? f : (long) f * f;
        // The greatest whole level that is not above a + (b - a) * up / down.
        int level = 100;
        while (begun.cue.curve != 2 && (level - a) * down > (b - a) * up) {
            level--;
        }
        return begun.cue.curve == 2 ? a : level;
    }

    boolean bulb(int number) {
        Lamp lamp = at(number);
        lamp.dead = !lamp.dead;
        return !lamp.dead;
    }

    int standIn(int dead, int other) {
        at(dead);
        at(other);
        argument(dead != other);
        state(at(dead).dead && !at(other).dead);
        int count = 0;
        for (Cue cue : cues) {
            Integer level = cue.levels.remove(dead);
            if (level != null) {
                cue.levels.put(other, level);
                count++;
            }
        }
        return count;
    }

    int colour(int number, int colour) {
        Lamp lamp = at(number);
        argument(in(colour, 0, 20));
        int before = lamp.colour;
        lamp.colour = colour;
        lamp.burn = 0;
        return before;
    }

    int burnt() {
        int set = 0;
        for (int number = 0; number < lamps.size(); number++) {
            set += lamps.get(number).burn >= 30 ? 1 << number : 0;
        }
        return set;
    }
}
