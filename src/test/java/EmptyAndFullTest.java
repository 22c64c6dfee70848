/** What is empty and what is full: plots, houses, bars, cues, addresses. */
public final class EmptyAndFullTest {
    private static final Class<?> INDEX = IndexOutOfBoundsException.class;
    private static final Class<?> STATE = IllegalStateException.class;
    private static final int NONE = PlotPatch.NONE;
    private static final Twins.Build EMPTY = plot -> { };

    public static void main(String[] args) {
        withoutLamps();
        withoutBars();
        withoutCues();
        emptyPlotAnswers();
        inTheHouse0();
        houseWith4Bars();
        tenLamps();
        eightCues();
        noNextCueAtAll();
        noNextCueBehindTheLast();
        noNextCueBehindAChain();
        nextCueAfterRewind();
        notSoManyLampsHangThere();
        barOfTenLamps();
        circuitOfTenLamps();
        allAddressesFree();
        noAddressFree();
        oneAddressFree();
        noneFreeForSoMany();
        freeAgain();
        most512Calls();
        longestTime();
        Check.finish("EmptyAndFullTest");
    }

    private static PlotPatch withLamps(int... kinds) {
        PlotPatch plot = new PlotPatch();
        for (int kind : kinds) {
            plot.lamp(kind, 0);
        }
        return plot;
    }

    /** "A plot without lamps": no call finds the lamp 0. */
    private static void withoutLamps() {
        Twins.Build rest = plot -> {
            plot.bar(0, 10, 100);
            plot.cue(0, 0, NONE);
        };
        Twins.refused(INDEX, "1: no lamp: hang", rest, p -> p.hang(0, 0, 0));
        Twins.refused(INDEX, "1: no lamp: down", rest, p -> p.down(0));
        Twins.refused(INDEX, "1: no lamp: where", rest, p -> p.where(0));
        Twins.refused(INDEX, "1: no lamp: patch", rest, p -> p.patch(0, 0));
        Twins.refused(INDEX, "1: no lamp: plug", rest, p -> p.plug(0, 0));
        Twins.refused(INDEX, "1: no lamp: name", rest, p -> p.name(0, 0, 0));
        Twins.refused(INDEX, "1: no lamp: level", rest, p -> p.level(0));
        Twins.refused(INDEX, "1: no lamp: wanted", rest, p -> p.wanted(0));
        Twins.refused(INDEX, "1: no lamp: wantedByCues", rest, p -> p.wantedByCues(0));
        Twins.refused(INDEX, "1: no lamp: bulb", rest, p -> p.bulb(0));
        Twins.refused(INDEX, "1: no lamp: standIn", rest, p -> p.standIn(0, 1));
        Twins.refused(INDEX, "1: no lamp: colour", rest, p -> p.colour(0, 0));
    }

    private static void withoutBars() {
        Twins.Build lamp = plot -> plot.lamp(0, 0);
        for (int bar = 0; bar < 4; bar++) {
            int b = bar;
            Twins.refused(INDEX, "1: no bar: hang", lamp, p -> p.hang(0, b, 0));
            Twins.refused(INDEX, "1: no bar: onBar", lamp, p -> p.onBar(b, 0));
        }
        Twins.refused(INDEX, "1: no bar in the house 1: hang", p -> {
            lamp.on(p);
            p.tour();
        }, p -> p.hang(0, 0, 0));
    }

    private static void withoutCues() {
        Twins.Build lamp = plot -> plot.lamp(0, 0);
        Twins.refused(INDEX, "1: no cue: name", lamp, p -> p.name(0, 0, 0));
        Twins.refused(STATE, "1: no cue: go", lamp, PlotPatch::go);
    }

    private static void emptyPlotAnswers() {
        PlotPatch plot = new PlotPatch();
        Check.due(0, "1: none hangs no more", plot::tour);
        Check.due(0, "1: none hangs no more on the way back", plot::tour);
        for (int circuit = 0; circuit < 4; circuit++) {
            int c = circuit;
            Check.due(0, "1: the circuit bears nothing", () -> plot.load(c));
        }
        Check.due(0, "1: all addresses are free", () -> plot.gap(100));
        Check.due(0, "1: no cue begins", () -> plot.tick(50));
        Check.due(0, "1: no cue had begun", plot::rewind);
        Check.due(0, "1: no colour is burnt", plot::burnt);
        Check.due(0, "1: the first lamp", () -> plot.lamp(0, 0));
        Check.due(0, "1: the first cue", () -> plot.cue(0, 0, NONE));
        Check.due(0, "1: the first bar of the house 0", () -> plot.bar(0, 0, 1));
        Check.due(0, "1: the first bar of the house 1", () -> plot.bar(1, 0, 1));
    }

    /** "in the house 0": its bars are the ones to hang on, until the first tour. */
    private static void inTheHouse0() {
        Twins.Build only1 = plot -> {
            plot.lamp(0, 0);
            plot.bar(1, 10, 10);
        };
        Twins.refused(INDEX, "1: a bar of the house 1", only1, p -> p.hang(0, 0, 0));
        PlotPatch plot = withLamps(0);
        plot.bar(1, 20, 10);
        plot.bar(0, 10, 10);
        Check.refused(INDEX, "1: past the bar of the house 0", () -> plot.hang(0, 0, 11));
        Check.due(4, "1: the bar of the house 0", () -> plot.hang(0, 0, 10));
        plot.tour();
        Check.due(4, "1: the bar of the house 1", () -> plot.hang(0, 0, 11));
    }

    private static void houseWith4Bars() {
        for (int house = 0; house < 2; house++) {
            int h = house;
            PlotPatch plot = new PlotPatch();
            for (int bar = 0; bar < 4; bar++) {
                int b = bar;
                Check.due(b, "2: bar " + b + " of the house " + h, () -> plot.bar(h, 10, 10));
            }
            Check.refused(STATE, "2: the house has 4 bars", () -> plot.bar(h, 10, 10));
            Check.due(0, "2: the other house has none", () -> plot.bar(1 - h, 10, 10));
            Twins.refused(STATE, "2: the house has 4 bars", Stages::full, p -> p.bar(h, 10, 10));
        }
        PlotPatch toured = new PlotPatch();
        for (int bar = 0; bar < 4; bar++) {
            toured.bar(0, 10, 10);
        }
        toured.tour();
        Check.refused(STATE, "2: it has them from the other house too", () -> toured.bar(0, 10, 10));
        Check.due(0, "2: the house that one is in has none", () -> toured.bar(1, 10, 10));
    }

    private static void tenLamps() {
        PlotPatch plot = new PlotPatch();
        for (int lamp = 0; lamp < 10; lamp++) {
            int n = lamp;
            Check.due(n, "3: lamp " + n, () -> plot.lamp(0, 0));
        }
        Check.refused(STATE, "3: there are 10", () -> plot.lamp(0, 0));
        Twins.refused(STATE, "3: there are 10", Stages::full, p -> p.lamp(3, 20));
    }

    private static void eightCues() {
        PlotPatch plot = new PlotPatch();
        for (int cue = 0; cue < 8; cue++) {
            int n = cue;
            Check.due(n, "13: cue " + n, () -> plot.cue(0, 0, 0));
        }
        Check.refused(STATE, "13: there are 8", () -> plot.cue(0, 0, 0));
        Check.due(7, "15: all eight begin", plot::go);
        Check.due(8, "17: all eight had begun", plot::rewind);
        Twins.refused(STATE, "13: there are 8", Stages::full, p -> p.cue(50, 2, NONE));
    }

    private static void noNextCueAtAll() {
        Twins.refused(STATE, "15: there is no next cue: no cue at all", EMPTY, PlotPatch::go);
    }

    private static void noNextCueBehindTheLast() {
        Twins.refused(STATE, "15: there is no next cue: all eight have begun", Stages::full, PlotPatch::go);
        PlotPatch plot = withLamps(0);
        plot.cue(0, 0, NONE);
        Check.due(0, "15: the only one", plot::go);
        Check.refused(STATE, "15: there is no next cue", plot::go);
        Check.due(1, "13: one more", () -> plot.cue(0, 0, NONE));
        Check.due(1, "15: now there is one", plot::go);
    }

    private static void noNextCueBehindAChain() {
        Twins.Build chain = plot -> {
            Stages.some(plot);
            plot.go();
        };
        PlotPatch plot = new PlotPatch();
        Stages.some(plot);
        Check.due(3, "15: two begin, the last one by a follow of 0", plot::go);
        Twins.refused(STATE, "15: there is no next cue behind the follow of 0", chain, PlotPatch::go);
    }

    private static void nextCueAfterRewind() {
        PlotPatch plot = new PlotPatch();
        plot.cue(0, 0, NONE);
        plot.go();
        Check.refused(STATE, "15: there is no next cue", plot::go);
        Check.due(1, "17: one had begun", plot::rewind);
        Check.due(0, "15: the first one at first", plot::go);
    }

    private static void notSoManyLampsHangThere() {
        Twins.refused(INDEX, "6: none hangs there", p -> {
            Stages.some(p);
            p.bar(0, 10, 10);
        }, p -> p.onBar(2, 0));
        PlotPatch plot = withLamps(0, 0);
        plot.bar(0, 10, 10);
        plot.hang(1, 0, 3);
        Check.due(1, "6: one hangs there", () -> plot.onBar(0, 0));
        Check.refused(INDEX, "6: only one hangs there", () -> plot.onBar(0, 1));
        plot.hang(0, 0, 0);
        Check.due(1, "6: two hang there", () -> plot.onBar(0, 1));
        Check.refused(INDEX, "6: only two hang there", () -> plot.onBar(0, 2));
        plot.down(0);
        Check.refused(INDEX, "6: one came down", () -> plot.onBar(0, 1));
        plot.down(1);
        Check.refused(INDEX, "6: both came down", () -> plot.onBar(0, 0));
    }

    private static void barOfTenLamps() {
        PlotPatch plot = withLamps(3, 3, 3, 3, 3, 3, 3, 3, 3, 3);
        plot.bar(0, 27, 250);
        for (int lamp = 0; lamp < 10; lamp++) {
            int n = lamp;
            Check.due(25 * (n + 1), "4: lamp " + n + " on one bar", () -> plot.hang(n, 0, 27 - 3 * n));
        }
        for (int rank = 0; rank < 10; rank++) {
            int r = rank;
            Check.due(9 - r, "6: rank " + r + " of ten", () -> plot.onBar(0, r));
        }
        Check.refused(INDEX, "6: only ten hang there", () -> plot.onBar(0, 10));
    }

    private static void circuitOfTenLamps() {
        for (int circuit = 0; circuit < 4; circuit++) {
            int c = circuit;
            PlotPatch plot = withLamps(0, 0, 0, 0, 0, 0, 0, 0, 0, 0);
            plot.bar(0, 100, 500);
            plot.cue(0, 0, NONE);
            for (int lamp = 0; lamp < 10; lamp++) {
                plot.hang(lamp, 0, 10 * lamp);
                plot.plug(lamp, c);
                plot.name(0, lamp, 100);
            }
            plot.go();
            for (int other = 0; other < 4; other++) {
                int o = other;
                Check.due(o == c ? 10000 : 0, "12: all ten on the circuit " + c, () -> plot.load(o));
            }
        }
    }

    private static void allAddressesFree() {
        PlotPatch plot = withLamps(0, 1, 2, 3);
        for (int many = 1; many <= 100; many++) {
            int m = many;
            Check.due(0, "10: all addresses are free for " + m, () -> plot.gap(m));
        }
    }

    /** Eight MOVERs and a WASH have 100 addresses together. */
    private static PlotPatch allTaken() {
        PlotPatch plot = withLamps(3, 3, 3, 3, 3, 3, 3, 3, 2, 0);
        for (int lamp = 0; lamp < 9; lamp++) {
            int n = lamp;
            Check.due(0, "9: no double", () -> plot.patch(n, 12 * n));
        }
        return plot;
    }

    private static void noAddressFree() {
        PlotPatch plot = allTaken();
        for (int many = 1; many <= 100; many++) {
            int m = many;
            Check.due(NONE, "10: no address is free for " + m, () -> plot.gap(m));
        }
        Check.due(1, "9: the last one is a double then", () -> plot.patch(9, 99));
        Check.due(1, "9: the first one is a double then", () -> plot.patch(9, 0));
    }

    private static void oneAddressFree() {
        PlotPatch plot = withLamps(3, 3, 3, 3, 3, 3, 3, 3, 2);
        for (int lamp = 0; lamp < 8; lamp++) {
            plot.patch(lamp, 1 + 12 * lamp);
        }
        Check.due(3, "9: three are doubles", () -> plot.patch(8, 94));
        Check.due(0, "10: address 0 alone is below", () -> plot.gap(1));
        Check.due(NONE, "10: the addresses 98 and 99 are two", () -> plot.gap(3));
        Check.due(98, "10: the addresses 98 and 99", () -> plot.gap(2));
        Check.due(1, "9: one is a double", () -> plot.patch(8, 96));
        Check.due(0, "10: address 0 alone is free", () -> plot.gap(1));
        Check.due(NONE, "10: not for two", () -> plot.gap(2));
        for (int lamp = 0; lamp < 8; lamp++) {
            plot.patch(lamp, 12 * lamp);
        }
        Check.due(1, "9: one is a double", () -> plot.patch(8, 95));
        Check.due(99, "10: address 99 alone is free", () -> plot.gap(1));
        Check.due(NONE, "10: not for two at the end", () -> plot.gap(2));
    }

    private static void noneFreeForSoMany() {
        PlotPatch plot = withLamps(0, 0);
        plot.patch(0, 0);
        Check.due(1, "10: 99 are free", () -> plot.gap(99));
        Check.due(NONE, "10: none free for 100", () -> plot.gap(100));
        plot.patch(0, 99);
        Check.due(0, "10: 99 are free", () -> plot.gap(99));
        Check.due(NONE, "10: none free for 100", () -> plot.gap(100));
        plot.patch(1, 49);
        Check.due(0, "10: of 49 and 49 the lowest", () -> plot.gap(49));
        Check.due(NONE, "10: none free for 50", () -> plot.gap(50));
        plot.patch(1, 48);
        Check.due(0, "10: of 48 and 50 the lowest for 48", () -> plot.gap(48));
        Check.due(49, "10: for 49 the one behind", () -> plot.gap(49));
        Check.due(49, "10: for 50 too", () -> plot.gap(50));
        Check.due(NONE, "10: none free for 51", () -> plot.gap(51));
    }

    private static void freeAgain() {
        PlotPatch plot = allTaken();
        Check.due(0, "9: a lamp in the middle has none any more", () -> plot.patch(4, NONE));
        Check.due(48, "10: its addresses are free", () -> plot.gap(12));
        Check.due(NONE, "10: no more than its own", () -> plot.gap(13));
    }

    /** "at most 512 calls": the last of them is as good as the first. */
    private static void most512Calls() {
        PlotPatch plot = withLamps(0);
        plot.bar(0, 0, 4);
        plot.hang(0, 0, 0);
        plot.cue(50, PlotPatch.SLOW, NONE);
        plot.cue(50, PlotPatch.SLOW, NONE);
        plot.name(0, 0, 100);
        plot.name(1, 0, 0);
        plot.go();
        for (int call = 9; call <= 508; call++) {
            plot.tick(50);
        }
        Check.due(1, "16: call 509, after 25000 ticks", plot::go);
        Check.due(0, "16: call 510", () -> plot.tick(25));
        Check.due(75, "19: call 511", () -> plot.wanted(0));
        Check.due(1, "24: call 512", plot::burnt);
    }

    /** However much time 512 calls let go by, what is there stays there. */
    private static void longestTime() {
        for (int calls = 1; calls <= 500; calls++) {
            PlotPatch plot = withLamps(0);
            plot.cue(50, PlotPatch.LINEAR, NONE);
            plot.name(0, 0, 100);
            plot.go();
            for (int call = 0; call < calls; call++) {
                plot.tick(50);
            }
            Check.due(100, "19: after 50 ticks " + calls + " times", () -> plot.wanted(0));
        }
    }
}
