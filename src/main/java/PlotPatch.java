import java.util.Arrays;

/**
 * A lighting plot on tour. This class looks at the arguments and throws; the rig, the board and
 * the show inside it do the work and are only called with numbers that it has looked at.
 */
public final class PlotPatch {
    public static final int NONE = -1;
    public static final int PAR = 0, PROFILE = 1, WASH = 2, MOVER = 3;
    public static final int LINEAR = 0, SLOW = 1, SNAP = 2;

    private static final int MAX_LAMPS = 10;
    private static final int MAX_COLOUR = 20;
    private static final int HOUSES = 2;
    private static final int MAX_BARS = 4;
    private static final int MAX_LENGTH = 100;
    private static final int MAX_LIMIT = 500;
    private static final int MIN_DISTANCE = 3;
    private static final int BAR_FACTOR = 1000;
    private static final int ADDRESSES = 100;
    private static final int CIRCUITS = 4;
    private static final int MAX_CUES = 8;
    private static final int MAX_FADE = 50;
    private static final int MAX_FOLLOW = 50;
    private static final int MAX_TICKS = 50;
    private static final int FULL = 100;
    private static final int BURNS_ABOVE = 80;
    private static final int BURNT_AT = 30;

    private int lampCount;
    private final int[] colours;
    private final int[] burns;
    private final boolean[] deaths;
    private final Rig rig;
    private final Board board;
    private final Show show;

    public PlotPatch() {
        lampCount = 0;
        colours = new int[MAX_LAMPS];
        burns = new int[MAX_LAMPS];
        deaths = new boolean[MAX_LAMPS];
        rig = new Rig();
        board = new Board();
        show = new Show();
    }

    // ---- bars and lamps

    public int bar(int house, int length, int limit)
            throws IndexOutOfBoundsException, IllegalArgumentException, IllegalStateException {
        if (house < 0 || house >= HOUSES) {
            throw new IndexOutOfBoundsException("no such house");
        }
        checkRange(length, 0, MAX_LENGTH);
        checkRange(limit, 1, MAX_LIMIT);
        if (rig.barCounts[house] >= MAX_BARS) {
            throw new IllegalStateException("the house has all its bars");
        }
        return rig.addBar(house, length, limit);
    }

    public int lamp(int kind, int colour) throws IllegalArgumentException, IllegalStateException {
        checkRange(kind, PAR, MOVER);
        checkRange(colour, 0, MAX_COLOUR);
        if (lampCount >= MAX_LAMPS) {
            throw new IllegalStateException("the plot has all its lamps");
        }
        int number = lampCount;
        lampCount++;
        colours[number] = colour;
        rig.weights[number] = weightOfKind(kind);
        board.widths[number] = widthOfKind(kind);
        board.watts[number] = wattsOfKind(kind);
        return number;
    }

    public int hang(int lamp, int bar, int place)
            throws IndexOutOfBoundsException, IllegalStateException {
        checkLamp(lamp);
        checkBar(bar);
        if (!rig.hasPlace(bar, place)) {
            throw new IndexOutOfBoundsException("no such place");
        }
        if (!rig.bears(lamp, bar) || !rig.isClear(lamp, bar, place)) {
            throw new IllegalStateException("the lamp cannot hang there");
        }
        rig.put(lamp, bar, place);
        return rig.weightOn(bar);
    }

    public boolean down(int lamp) throws IndexOutOfBoundsException {
        checkLamp(lamp);
        boolean hung = rig.hangs(lamp);
        rig.bars[lamp] = NONE;
        return hung;
    }

    public int onBar(int bar, int rank) throws IndexOutOfBoundsException {
        checkBar(bar);
        int lamp = rig.ranked(bar, rank);
        if (lamp == NONE) {
            throw new IndexOutOfBoundsException("not so many lamps hang there");
        }
        return lamp;
    }

    public int where(int lamp) throws IndexOutOfBoundsException {
        checkLamp(lamp);
        return rig.hangs(lamp) ? BAR_FACTOR * rig.bars[lamp] + rig.places[lamp] : NONE;
    }

    public int tour() {
        return rig.changeHouse();
    }

    // ---- addresses and power

    public int patch(int lamp, int first)
            throws IndexOutOfBoundsException, IllegalArgumentException {
        checkLamp(lamp);
        checkRange(first, NONE, ADDRESSES - board.widths[lamp]);
        board.firsts[lamp] = first;
        return board.countDoubles();
    }

    public int gap(int many) throws IllegalArgumentException {
        checkRange(many, 1, ADDRESSES);
        return board.lowestGap(many);
    }

    public int plug(int lamp, int circuit) throws IndexOutOfBoundsException {
        checkLamp(lamp);
        if (circuit != NONE) {
            checkCircuit(circuit);
        }
        int before = board.circuits[lamp];
        board.circuits[lamp] = circuit;
        return before;
    }

    public int load(int circuit) throws IndexOutOfBoundsException {
        checkCircuit(circuit);
        int sum = 0;
        for (int lamp = 0; lamp < lampCount; lamp++) {
            if (board.circuits[lamp] == circuit) {
                // Each lamp is rounded down by itself, not the sum.
                sum += board.watts[lamp] * shownLevel(lamp) / FULL;
            }
        }
        return sum;
    }

    // ---- cues

    public int cue(int fade, int curve, int follow)
            throws IllegalArgumentException, IllegalStateException {
        checkRange(fade, 0, MAX_FADE);
        checkRange(curve, LINEAR, SNAP);
        checkRange(follow, NONE, MAX_FOLLOW);
        if (show.cueCount >= MAX_CUES) {
            throw new IllegalStateException("the plot has all its cues");
        }
        return show.addCue(fade, curve, follow);
    }

    public int name(int cue, int lamp, int level)
            throws IndexOutOfBoundsException, IllegalArgumentException {
        if (cue < 0 || cue >= show.cueCount) {
            throw new IndexOutOfBoundsException("no such cue");
        }
        checkLamp(lamp);
        checkRange(level, NONE, FULL);
        int cell = Show.cell(cue, lamp);
        int before = show.named[cell];
        show.named[cell] = level;
        return before;
    }

    public int go() throws IllegalStateException {
        if (show.beginNext() == 0) {
            throw new IllegalStateException("there is no next cue");
        }
        return show.last;
    }

    public int tick(int ticks) throws IllegalArgumentException {
        checkRange(ticks, 1, MAX_TICKS);
        int begun = 0;
        for (int i = 0; i < ticks; i++) {
            begun += show.advance();
            burnColours();
        }
        return begun;
    }

    public int rewind() {
        return show.reset();
    }

    // ---- levels

    public int level(int lamp) throws IndexOutOfBoundsException {
        checkLamp(lamp);
        return shownLevel(lamp);
    }

    public int wanted(int lamp) throws IndexOutOfBoundsException {
        checkLamp(lamp);
        return show.wantedLevel(lamp);
    }

    public int wantedByCues(int lamp) throws IndexOutOfBoundsException {
        checkLamp(lamp);
        // The show keeps what each cue named as it began, so its one answer is both promises'.
        return show.wantedLevel(lamp);
    }

    public boolean bulb(int lamp) throws IndexOutOfBoundsException {
        checkLamp(lamp);
        deaths[lamp] = !deaths[lamp];
        return !deaths[lamp];
    }

    public int standIn(int dead, int other)
            throws IndexOutOfBoundsException, IllegalArgumentException, IllegalStateException {
        checkLamp(dead);
        checkLamp(other);
        if (dead == other) {
            throw new IllegalArgumentException("a lamp cannot stand in for itself");
        }
        if (!deaths[dead] || deaths[other]) {
            throw new IllegalStateException("the one must be dead, the other one must live");
        }
        return show.handOver(dead, other);
    }

    public int colour(int lamp, int colour)
            throws IndexOutOfBoundsException, IllegalArgumentException {
        checkLamp(lamp);
        checkRange(colour, 0, MAX_COLOUR);
        int before = colours[lamp];
        colours[lamp] = colour;
        burns[lamp] = 0;
        return before;
    }

    public int burnt() {
        int set = 0;
        for (int lamp = 0; lamp < lampCount; lamp++) {
            if (burns[lamp] >= BURNT_AT) {
                set |= 1 << lamp;
            }
        }
        return set;
    }

    // ---- what the calls share

    private void checkLamp(int lamp) {
        if (lamp < 0 || lamp >= lampCount) {
            throw new IndexOutOfBoundsException("no such lamp");
        }
    }

    private void checkBar(int bar) {
        if (!rig.hasBar(bar)) {
            throw new IndexOutOfBoundsException("no such bar");
        }
    }

    private static void checkCircuit(int circuit) {
        if (circuit < 0 || circuit >= CIRCUITS) {
            throw new IndexOutOfBoundsException("no such circuit");
        }
    }

    private static void checkRange(int value, int lowest, int highest) {
        if (value < lowest || value > highest) {
            throw new IllegalArgumentException("out of its range");
        }
    }

    private int shownLevel(int lamp) {
        return rig.hangs(lamp) && !deaths[lamp] ? show.wantedLevel(lamp) : 0;
    }

    private void burnColours() {
        for (int lamp = 0; lamp < lampCount; lamp++) {
            if (shownLevel(lamp) > BURNS_ABOVE) {
                burns[lamp]++;
            }
        }
    }

    private static int weightOfKind(int kind) {
        switch (kind) {
            case PAR: return 4;
            case PROFILE: return 9;
            case WASH: return 12;
            default: return 25;
        }
    }

    private static int wattsOfKind(int kind) {
        switch (kind) {
            case PAR: return 1000;
            case PROFILE: return 750;
            case WASH: return 500;
            default: return 800;
        }
    }

    private static int widthOfKind(int kind) {
        switch (kind) {
            case PAR: return 1;
            case PROFILE: return 1;
            case WASH: return 4;
            default: return 12;
        }
    }

    /** The bars of both houses, and where the lamps hang in the one that the tour is in. */
    private static final class Rig {
        private int house;
        private final int[] barCounts;
        private final int[] lengths;
        private final int[] limits;
        private final int[] weights;
        private final int[] bars;
        private final int[] formerBars;
        private final int[] places;

        private Rig() {
            house = 0;
            barCounts = new int[HOUSES];
            lengths = new int[HOUSES * MAX_BARS];
            limits = new int[HOUSES * MAX_BARS];
            weights = new int[MAX_LAMPS];
            bars = new int[MAX_LAMPS];
            Arrays.fill(bars, NONE);
            formerBars = new int[MAX_LAMPS];
            places = new int[MAX_LAMPS];
        }

        private static int cell(int house, int bar) {
            return house * MAX_BARS + bar;
        }

        private int addBar(int toHouse, int length, int limit) {
            int number = barCounts[toHouse];
            barCounts[toHouse]++;
            lengths[cell(toHouse, number)] = length;
            limits[cell(toHouse, number)] = limit;
            return number;
        }

        private boolean hasBar(int bar) {
            return bar >= 0 && bar < barCounts[house];
        }

        private boolean hasPlace(int bar, int place) {
            return place >= 0 && place <= lengths[cell(house, bar)];
        }

        private boolean hangs(int lamp) {
            return bars[lamp] != NONE;
        }

        private void put(int lamp, int bar, int place) {
            bars[lamp] = bar;
            places[lamp] = place;
        }

        private int weightOn(int bar) {
            int sum = 0;
            for (int lamp = 0; lamp < MAX_LAMPS; lamp++) {
                if (bars[lamp] == bar) {
                    sum += weights[lamp];
                }
            }
            return sum;
        }

        /** Whether the bar bears the lamp beside all others that hang there. */
        private boolean bears(int lamp, int bar) {
            int others = weightOn(bar) - (bars[lamp] == bar ? weights[lamp] : 0);
            return others + weights[lamp] <= limits[cell(house, bar)];
        }

        /** Whether no other lamp of the bar hangs too near to the place. */
        private boolean isClear(int lamp, int bar, int place) {
            for (int other = 0; other < MAX_LAMPS; other++) {
                if (other != lamp && bars[other] == bar
                        && Math.abs(places[other] - place) < MIN_DISTANCE) {
                    return false;
                }
            }
            return true;
        }

        /** The lamp of the bar with just so many lamps at lower places, or NONE. */
        private int ranked(int bar, int rank) {
            for (int lamp = 0; lamp < MAX_LAMPS; lamp++) {
                if (bars[lamp] == bar && countBelow(bar, places[lamp]) == rank) {
                    return lamp;
                }
            }
            return NONE;
        }

        private int countBelow(int bar, int place) {
            int count = 0;
            for (int lamp = 0; lamp < MAX_LAMPS; lamp++) {
                if (bars[lamp] == bar && places[lamp] < place) {
                    count++;
                }
            }
            return count;
        }

        /** Answers how many lamps hang no more by that. */
        private int changeHouse() {
            // All come down before the first hangs again: none may be in another one's way.
            for (int lamp = 0; lamp < MAX_LAMPS; lamp++) {
                formerBars[lamp] = bars[lamp];
                bars[lamp] = NONE;
            }
            house = house == 0 ? 1 : 0;
            int lost = 0;
            for (int lamp = 0; lamp < MAX_LAMPS; lamp++) {
                if (formerBars[lamp] != NONE && !hangAgain(lamp, formerBars[lamp])) {
                    lost++;
                }
            }
            return lost;
        }

        private boolean hangAgain(int lamp, int bar) {
            if (!hasBar(bar) || !bears(lamp, bar)) {
                return false;
            }
            int place = nearestPlace(lamp, bar, places[lamp]);
            if (place == NONE) {
                return false;
            }
            put(lamp, bar, place);
            return true;
        }

        private int nearestPlace(int lamp, int bar, int own) {
            for (int distance = 0; distance <= MAX_LENGTH; distance++) {
                // The lower one comes first: of two as near it is the one to take.
                if (hasPlace(bar, own - distance) && isClear(lamp, bar, own - distance)) {
                    return own - distance;
                }
                if (hasPlace(bar, own + distance) && isClear(lamp, bar, own + distance)) {
                    return own + distance;
                }
            }
            return NONE;
        }
    }

    /** The addresses and the circuits of the lamps. */
    private static final class Board {
        private final int[] firsts;
        private final int[] widths;
        private final int[] circuits;
        private final int[] watts;

        private Board() {
            firsts = new int[MAX_LAMPS];
            Arrays.fill(firsts, NONE);
            widths = new int[MAX_LAMPS];
            circuits = new int[MAX_LAMPS];
            Arrays.fill(circuits, NONE);
            watts = new int[MAX_LAMPS];
        }

        /** How many lamps have the address. */
        private int countHolders(int address) {
            int count = 0;
            for (int lamp = 0; lamp < MAX_LAMPS; lamp++) {
                int first = firsts[lamp];
                if (first != NONE && first <= address && address < first + widths[lamp]) {
                    count++;
                }
            }
            return count;
        }

        private int countDoubles() {
            int count = 0;
            for (int address = 0; address < ADDRESSES; address++) {
                if (countHolders(address) > 1) {
                    count++;
                }
            }
            return count;
        }

        private int lowestGap(int many) {
            int free = 0;
            for (int address = 0; address < ADDRESSES; address++) {
                free = countHolders(address) == 0 ? free + 1 : 0;
                if (free == many) {
                    return address - many + 1;
                }
            }
            return NONE;
        }
    }

    /** The cues, the time, and the wanted levels that follow from the cues that have begun. */
    private static final class Show {
        private int cueCount;
        private final int[] fades;
        private final int[] curves;
        private final int[] follows;
        private final int[] named;
        private int time;
        private int last;
        private final int[] beganAt;
        private final int[] ruling;
        private final int[] from;
        private final int[] to;

        private Show() {
            cueCount = 0;
            fades = new int[MAX_CUES];
            curves = new int[MAX_CUES];
            follows = new int[MAX_CUES];
            named = new int[MAX_CUES * MAX_LAMPS];
            Arrays.fill(named, NONE);
            time = 0;
            last = NONE;
            beganAt = new int[MAX_CUES];
            ruling = new int[MAX_LAMPS];
            Arrays.fill(ruling, NONE);
            from = new int[MAX_LAMPS];
            to = new int[MAX_LAMPS];
        }

        private static int cell(int cue, int lamp) {
            return cue * MAX_LAMPS + lamp;
        }

        private int addCue(int fade, int curve, int follow) {
            int number = cueCount;
            cueCount++;
            fades[number] = fade;
            curves[number] = curve;
            follows[number] = follow;
            return number;
        }

        /** Lets the next cue begin, and each that follows right behind; answers how many did. */
        private int beginNext() {
            int before = last;
            for (int next = before + 1; next < cueCount; next++) {
                begin(next);
                if (follows[next] != 0) {
                    break;
                }
            }
            return last - before;
        }

        private void begin(int cue) {
            for (int lamp = 0; lamp < MAX_LAMPS; lamp++) {
                int level = named[cell(cue, lamp)];
                if (level != NONE) {
                    // Kept apart from the cue: what it names later must not move what has begun.
                    from[lamp] = wantedLevel(lamp);
                    to[lamp] = level;
                    ruling[lamp] = cue;
                }
            }
            beganAt[cue] = time;
            last = cue;
        }

        /** Lets one tick go by; answers how many cues began in it. */
        private int advance() {
            time++;
            if (last < 0 || last >= cueCount || follows[last] <= 0) {
                return 0;
            }
            // Only in this very tick: a cue that is added later does not follow any more.
            return time - beganAt[last] == follows[last] ? beginNext() : 0;
        }

        private int reset() {
            int begun = last + 1;
            last = NONE;
            Arrays.fill(ruling, NONE);
            return begun;
        }

        private int wantedLevel(int lamp) {
            int cue = ruling[lamp];
            if (cue < 0 || cue >= cueCount) {
                return 0;
            }
            int ticks = time - beganAt[cue];
            int fade = fades[cue];
            if (fade <= 0 || ticks >= fade) {
                return to[lamp];
            }
            return from[lamp] + gained(to[lamp] - from[lamp], ticks, fade, curves[cue]);
        }

        /** How far a level has gone of the whole way, rounded down on the way down too. */
        private static int gained(int way, int ticks, int fade, int curve) {
            if (curve == SNAP || fade <= 0) {
                return 0;
            }
            if (curve == SLOW) {
                return Math.floorDiv(way * ticks * ticks, fade * fade);
            }
            return Math.floorDiv(way * ticks, fade);
        }

        /** Gives the other lamp what the cues name for the dead one; answers in how many. */
        private int handOver(int dead, int other) {
            int count = 0;
            for (int cue = 0; cue < cueCount; cue++) {
                int level = named[cell(cue, dead)];
                if (level != NONE) {
                    named[cell(cue, other)] = level;
                    named[cell(cue, dead)] = NONE;
                    count++;
                }
            }
            return count;
        }
    }
}
