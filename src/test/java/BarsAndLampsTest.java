/** Promises 1 to 8: a new object, bar, lamp, hang, down, onBar, where, tour. */
public final class BarsAndLampsTest {
    private static final Class<?> INDEX = IndexOutOfBoundsException.class;
    private static final Class<?> ARGUMENT = IllegalArgumentException.class;
    private static final Class<?> STATE = IllegalStateException.class;
    private static final int NONE = PlotPatch.NONE;

    public static void main(String[] args) {
        newObject();
        bars();
        barsPerHouse();
        lamps();
        weights();
        hangDistances();
        hangLimit();
        hangAgain();
        hangWrong();
        down();
        onBar();
        where();
        tourNearest();
        tourPushed();
        tourOrder();
        tourLosses();
        tourWeights();
        tourBothWays();
        Check.finish("BarsAndLampsTest");
    }

    private static PlotPatch withLamps(int... kinds) {
        PlotPatch plot = new PlotPatch();
        for (int kind : kinds) {
            plot.lamp(kind, 0);
        }
        return plot;
    }

    private static void newObject() {
        PlotPatch plot = new PlotPatch();
        Check.refused(INDEX, "1: where(0)", () -> plot.where(0));
        Check.refused(INDEX, "1: onBar(0, 0)", () -> plot.onBar(0, 0));
        Check.refused(INDEX, "1: name(0, 0, 0)", () -> plot.name(0, 0, 0));
        Check.refused(STATE, "1: go()", plot::go);
        Check.due(0, "1: burnt()", plot::burnt);
        Check.due(0, "1: rewind()", plot::rewind);
        Check.due(0, "1: tick(50)", () -> plot.tick(50));
        Check.due(0, "1: gap(100)", () -> plot.gap(100));
        for (int circuit = 0; circuit < 4; circuit++) {
            int c = circuit;
            Check.due(0, "1: load", () -> plot.load(c));
        }
        plot.lamp(0, 0);
        plot.bar(1, 10, 10);
        Check.refused(INDEX, "1: hang on a bar of house 1", () -> plot.hang(0, 0, 0));
        plot.bar(0, 10, 10);
        Check.due(4, "1: hang on a bar of house 0", () -> plot.hang(0, 0, 0));
        PlotPatch other = new PlotPatch();
        Check.refused(INDEX, "1: another object has no lamp", () -> other.level(0));
    }

    private static void bars() {
        PlotPatch plot = withLamps(PlotPatch.PAR);
        Check.refused(INDEX, "2: bar(-1, 0, 1)", () -> plot.bar(-1, 0, 1));
        Check.refused(INDEX, "2: bar(2, 0, 1)", () -> plot.bar(2, 0, 1));
        Check.refused(INDEX, "2: bar(2, -1, 0)", () -> plot.bar(2, -1, 0));
        Check.refused(ARGUMENT, "2: bar(0, -1, 1)", () -> plot.bar(0, -1, 1));
        Check.refused(ARGUMENT, "2: bar(0, 101, 1)", () -> plot.bar(0, 101, 1));
        Check.refused(ARGUMENT, "2: bar(0, 0, 0)", () -> plot.bar(0, 0, 0));
        Check.refused(ARGUMENT, "2: bar(0, 0, 501)", () -> plot.bar(0, 0, 501));
        Check.due(0, "2: bar(0, 0, 1)", () -> plot.bar(0, 0, 1));
        Check.due(1, "2: bar(0, 100, 500)", () -> plot.bar(0, 100, 500));
        Check.refused(STATE, "2: the limit 1 counts", () -> plot.hang(0, 0, 0));
        Check.due(4, "2: the length 100 counts", () -> plot.hang(0, 1, 100));
        Check.due(2, "2: bar(0, 50, 50)", () -> plot.bar(0, 50, 50));
        Check.due(3, "2: bar(0, 50, 50)", () -> plot.bar(0, 50, 50));
        Check.refused(STATE, "2: a fifth bar", () -> plot.bar(0, 50, 50));
        Check.refused(ARGUMENT, "2: a fifth bar too long", () -> plot.bar(0, 101, 50));
        Check.refused(INDEX, "2: a fifth bar nowhere", () -> plot.bar(-1, 50, 50));
    }

    private static void barsPerHouse() {
        PlotPatch plot = withLamps(PlotPatch.PAR);
        for (int number = 0; number < 4; number++) {
            int n = number;
            Check.due(n, "2: bar in house 0", () -> plot.bar(0, 10 + n, 100));
            Check.due(n, "2: bar in house 1", () -> plot.bar(1, 20 + n, 100));
        }
        Check.refused(STATE, "2: house 1 is full", () -> plot.bar(1, 50, 50));
        for (int number = 0; number < 4; number++) {
            int n = number;
            Check.refused(INDEX, "2: past the end", () -> plot.hang(0, n, 11 + n));
            Check.due(4, "2: at the end", () -> plot.hang(0, n, 10 + n));
        }
        Check.due(0, "2: tour", plot::tour);
        for (int number = 0; number < 4; number++) {
            int n = number;
            Check.refused(INDEX, "2: past the end in 1", () -> plot.hang(0, n, 21 + n));
            Check.due(4, "2: at the end in 1", () -> plot.hang(0, n, 20 + n));
        }
    }

    private static void lamps() {
        PlotPatch plot = new PlotPatch();
        Check.refused(ARGUMENT, "3: lamp(-1, 0)", () -> plot.lamp(-1, 0));
        Check.refused(ARGUMENT, "3: lamp(4, 0)", () -> plot.lamp(4, 0));
        Check.refused(ARGUMENT, "3: lamp(0, -1)", () -> plot.lamp(0, -1));
        Check.refused(ARGUMENT, "3: lamp(0, 21)", () -> plot.lamp(0, 21));
        for (int number = 0; number < 10; number++) {
            int n = number;
            Check.due(n, "3: lamp", () -> plot.lamp(n % 4, 2 * n + 2));
        }
        Check.refused(STATE, "3: an eleventh lamp", () -> plot.lamp(0, 0));
        Check.refused(ARGUMENT, "3: an eleventh lamp of no kind", () -> plot.lamp(4, 0));
        Check.refused(ARGUMENT, "3: an eleventh lamp of no colour", () -> plot.lamp(0, 21));
        for (int number = 0; number < 10; number++) {
            int n = number;
            Check.due(2 * n + 2, "3: its colour", () -> plot.colour(n, 0));
            Check.due(NONE, "3: it hangs nowhere", () -> plot.where(n));
            Check.due(NONE, "3: it is on no circuit", () -> plot.plug(n, NONE));
            Check.due(false, "3: it lives at first", () -> plot.bulb(n));
        }
        Check.due(0, "3: it has no address", () -> plot.gap(100));
    }

    private static void weights() {
        PlotPatch plot = withLamps(0, 1, 2, 3);
        plot.bar(0, 100, 500);
        Check.due(4, "4: a PAR weighs", () -> plot.hang(0, 0, 0));
        Check.due(13, "4: with a PROFILE", () -> plot.hang(1, 0, 10));
        Check.due(25, "4: with a WASH", () -> plot.hang(2, 0, 20));
        Check.due(50, "4: with a MOVER", () -> plot.hang(3, 0, 30));
    }

    private static void hangDistances() {
        PlotPatch plot = withLamps(0, 0, 0);
        plot.bar(0, 20, 100);
        plot.bar(0, 20, 100);
        Check.due(4, "4: hang(0, 0, 10)", () -> plot.hang(0, 0, 10));
        for (int place = 8; place <= 12; place++) {
            int p = place;
            Check.refused(STATE, "4: too near at " + p, () -> plot.hang(1, 0, p));
        }
        Check.due(8, "4: 3 below", () -> plot.hang(1, 0, 7));
        Check.due(8, "4: 3 above", () -> plot.hang(1, 0, 13));
        Check.due(4, "4: the same place of another bar", () -> plot.hang(2, 1, 10));
        Check.due(8, "4: what hangs on that bar alone", () -> plot.hang(1, 1, 0));
    }

    private static void hangLimit() {
        PlotPatch plot = withLamps(1, 0, 0);
        plot.bar(0, 20, 13);
        plot.bar(0, 20, 12);
        Check.due(9, "4: alone", () -> plot.hang(0, 0, 0));
        Check.due(13, "4: just the limit", () -> plot.hang(1, 0, 10));
        Check.refused(STATE, "4: above the limit", () -> plot.hang(2, 0, 20));
        Check.due(4, "4: another bar bears it", () -> plot.hang(2, 1, 20));
        Check.refused(STATE, "4: one above the limit", () -> plot.hang(0, 1, 0));
        Check.due(0, "4: it hangs where it hung", () -> plot.where(0));
    }

    private static void hangAgain() {
        PlotPatch plot = withLamps(3, 0);
        plot.bar(0, 10, 25);
        plot.bar(0, 10, 500);
        Check.due(25, "4: first", () -> plot.hang(0, 0, 5));
        Check.due(25, "4: the same place again", () -> plot.hang(0, 0, 5));
        Check.due(25, "4: beside its former place", () -> plot.hang(0, 0, 6));
        Check.due(6, "4: it hangs there then", () -> plot.where(0));
        Check.due(25, "4: on the other bar", () -> plot.hang(0, 1, 5));
        Check.due(1005, "4: it hangs there then", () -> plot.where(0));
        Check.due(4, "4: the former place is free", () -> plot.hang(1, 0, 6));
        Check.refused(STATE, "4: taken by then", () -> plot.hang(0, 0, 6));
    }

    private static void hangWrong() {
        PlotPatch plot = withLamps(3, 0);
        plot.bar(0, 10, 20);
        plot.bar(1, 50, 500);
        plot.bar(1, 50, 500);
        Check.refused(INDEX, "4: lamp -1", () -> plot.hang(-1, 0, 0));
        Check.refused(INDEX, "4: lamp 2", () -> plot.hang(2, 0, 0));
        Check.refused(INDEX, "4: bar -1", () -> plot.hang(1, -1, 0));
        Check.refused(INDEX, "4: bar 1", () -> plot.hang(1, 1, 0));
        Check.refused(INDEX, "4: place -1", () -> plot.hang(1, 0, -1));
        Check.refused(INDEX, "4: place 11", () -> plot.hang(1, 0, 11));
        Check.refused(INDEX, "4: place 11 and too heavy", () -> plot.hang(0, 0, 11));
        Check.refused(STATE, "4: too heavy", () -> plot.hang(0, 0, 0));
        Check.due(4, "4: at the end", () -> plot.hang(1, 0, 10));
    }

    private static void down() {
        PlotPatch plot = withLamps(0, 0);
        plot.bar(0, 10, 20);
        Check.due(false, "5: it does not hang", () -> plot.down(0));
        plot.hang(0, 0, 5);
        Check.due(true, "5: it hangs", () -> plot.down(0));
        Check.due(NONE, "5: it hangs no more", () -> plot.where(0));
        Check.due(false, "5: not twice", () -> plot.down(0));
        Check.due(4, "5: its place is free", () -> plot.hang(1, 0, 4));
        Check.refused(INDEX, "5: lamp -1", () -> plot.down(-1));
        Check.refused(INDEX, "5: lamp 2", () -> plot.down(2));
    }

    private static void onBar() {
        PlotPatch plot = withLamps(0, 0, 0, 0);
        plot.bar(0, 30, 100);
        plot.bar(0, 30, 100);
        Check.refused(INDEX, "6: an empty bar", () -> plot.onBar(0, 0));
        plot.hang(0, 0, 20);
        plot.hang(1, 0, 0);
        plot.hang(2, 1, 5);
        plot.hang(3, 0, 10);
        Check.due(1, "6: onBar(0, 0)", () -> plot.onBar(0, 0));
        Check.due(3, "6: onBar(0, 1)", () -> plot.onBar(0, 1));
        Check.due(0, "6: onBar(0, 2)", () -> plot.onBar(0, 2));
        Check.due(2, "6: onBar(1, 0)", () -> plot.onBar(1, 0));
        plot.hang(0, 0, 4);
        Check.due(0, "6: lamp 0 below lamp 3", () -> plot.onBar(0, 1));
        Check.due(3, "6: lamp 3 above lamp 0", () -> plot.onBar(0, 2));
        Check.refused(INDEX, "6: rank 3", () -> plot.onBar(0, 3));
        Check.refused(INDEX, "6: rank -1", () -> plot.onBar(0, -1));
        Check.refused(INDEX, "6: bar -1", () -> plot.onBar(-1, 0));
        Check.refused(INDEX, "6: bar 2", () -> plot.onBar(2, 0));
        plot.tour();
        Check.refused(INDEX, "6: no bar of that house", () -> plot.onBar(0, 0));
    }

    private static void where() {
        PlotPatch plot = withLamps(0, 0);
        for (int bar = 0; bar < 4; bar++) {
            plot.bar(0, 100, 100);
        }
        Check.due(NONE, "7: it does not hang", () -> plot.where(0));
        plot.hang(0, 3, 100);
        Check.due(3100, "7: the last place", () -> plot.where(0));
        plot.hang(0, 0, 0);
        Check.due(0, "7: the first place", () -> plot.where(0));
        Check.due(NONE, "7: the other one", () -> plot.where(1));
        Check.refused(INDEX, "7: lamp -1", () -> plot.where(-1));
        Check.refused(INDEX, "7: lamp 2", () -> plot.where(2));
    }

    private static void tourNearest() {
        PlotPatch plot = withLamps(0, 0, 0);
        plot.bar(0, 100, 100);
        plot.bar(0, 100, 100);
        plot.bar(1, 40, 100);
        plot.bar(1, 100, 100);
        plot.hang(0, 0, 100);
        plot.hang(1, 0, 41);
        plot.hang(2, 1, 100);
        Check.due(0, "8: all hang", plot::tour);
        Check.due(40, "8: a place beyond the end", () -> plot.where(0));
        Check.due(37, "8: the nearest below it", () -> plot.where(1));
        Check.due(1100, "8: its own place", () -> plot.where(2));
        PlotPatch far = withLamps(0);
        far.bar(0, 100, 100);
        far.bar(1, 0, 100);
        far.hang(0, 0, 100);
        Check.due(0, "8: it hangs", far::tour);
        Check.due(0, "8: as far away as can be", () -> far.where(0));
    }

    private static void tourPushed() {
        PlotPatch plot = withLamps(0, 0, 0, 0);
        plot.bar(0, 20, 100);
        plot.bar(1, 14, 100);
        plot.hang(0, 0, 15);
        plot.hang(1, 0, 18);
        plot.hang(2, 0, 12);
        plot.hang(3, 0, 6);
        Check.due(0, "8: all hang", plot::tour);
        Check.due(14, "8: 15 to the end", () -> plot.where(0));
        Check.due(11, "8: 18 below that", () -> plot.where(1));
        Check.due(8, "8: 12 below that", () -> plot.where(2));
        Check.due(5, "8: 6 below that", () -> plot.where(3));
        PlotPatch between = withLamps(0, 0, 0, 0);
        between.bar(0, 100, 100);
        between.bar(1, 50, 100);
        between.hang(0, 0, 100);
        between.hang(1, 0, 45);
        between.hang(2, 0, 50);
        between.hang(3, 0, 41);
        Check.due(0, "8: all hang", between::tour);
        Check.due(50, "8: 100 to the end", () -> between.where(0));
        Check.due(45, "8: its own place", () -> between.where(1));
        Check.due(42, "8: 50 is taken, above 42 is no room", () -> between.where(2));
        Check.due(39, "8: 41 is too near to 42", () -> between.where(3));
    }

    private static void tourOrder() {
        // Hung in falling order, taken by rising numbers.
        PlotPatch plot = withLamps(0, 0, 0);
        plot.bar(0, 100, 100);
        plot.bar(1, 30, 100);
        plot.hang(2, 0, 24);
        plot.hang(1, 0, 30);
        plot.hang(0, 0, 33);
        Check.due(0, "8: all hang", plot::tour);
        Check.due(30, "8: lamp 0 first", () -> plot.where(0));
        Check.due(27, "8: lamp 1 then", () -> plot.where(1));
        Check.due(24, "8: lamp 2 last", () -> plot.where(2));
        // Back again: now each has its own place, and all came down before the first one hung.
        Check.due(0, "8: back", plot::tour);
        Check.due(30, "8: lamp 0 back", () -> plot.where(0));
        Check.due(27, "8: lamp 1 back", () -> plot.where(1));
        Check.due(24, "8: lamp 2 back", () -> plot.where(2));
    }

    private static void tourLosses() {
        PlotPatch plot = withLamps(0, 0, 0, 0);
        plot.bar(0, 10, 100);
        plot.bar(0, 10, 100);
        plot.bar(1, 2, 100);
        plot.hang(0, 1, 5);
        plot.hang(1, 0, 0);
        plot.hang(2, 0, 10);
        Check.due(2, "8: no such bar, no place", plot::tour);
        Check.due(NONE, "8: no such bar", () -> plot.where(0));
        Check.due(0, "8: its own place", () -> plot.where(1));
        Check.due(NONE, "8: no place", () -> plot.where(2));
        Check.due(NONE, "8: it did not hang before", () -> plot.where(3));
        Check.due(0, "8: none is lost on the way back", plot::tour);
        Check.due(NONE, "8: what came down stays down", () -> plot.where(0));
        Check.due(0, "8: what hung hangs", () -> plot.where(1));
    }

    private static void tourWeights() {
        PlotPatch plot = withLamps(3, 2, 0, 0);
        plot.bar(0, 100, 500);
        plot.bar(1, 100, 33);
        plot.hang(0, 0, 0);
        plot.hang(1, 0, 10);
        plot.hang(2, 0, 20);
        plot.hang(3, 0, 30);
        Check.due(1, "8: one is too heavy", plot::tour);
        Check.due(0, "8: 25 of 33", () -> plot.where(0));
        Check.due(NONE, "8: 37 of 33", () -> plot.where(1));
        Check.due(20, "8: 29 of 33", () -> plot.where(2));
        Check.due(30, "8: 33 of 33", () -> plot.where(3));
    }

    private static void tourBothWays() {
        PlotPatch plot = withLamps(0);
        Check.due(0, "8: without bars and hung lamps", plot::tour);
        plot.bar(1, 10, 10);
        Check.due(4, "8: in house 1", () -> plot.hang(0, 0, 1));
        plot.bar(0, 0, 4);
        Check.due(0, "8: to house 0", plot::tour);
        Check.due(0, "8: the only place", () -> plot.where(0));
        Check.refused(INDEX, "8: the bars of house 0", () -> plot.hang(0, 0, 1));
    }
}
