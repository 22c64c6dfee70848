/** Promises 9 to 12: patch, gap, plug, load. */
public final class AddressesAndPowerTest {
    private static final Class<?> INDEX = IndexOutOfBoundsException.class;
    private static final Class<?> ARGUMENT = IllegalArgumentException.class;
    private static final int NONE = PlotPatch.NONE;

    public static void main(String[] args) {
        widths();
        doubles();
        patchWrong();
        gaps();
        gapWrong();
        plugs();
        plugWrong();
        loads();
        loadOfDark();
        Check.finish("AddressesAndPowerTest");
    }

    private static PlotPatch withLamps(int... kinds) {
        PlotPatch plot = new PlotPatch();
        for (int kind : kinds) {
            plot.lamp(kind, 0);
        }
        return plot;
    }

    private static void widths() {
        int[] widths = {1, 1, 4, 12};
        for (int kind = 0; kind < 4; kind++) {
            int k = kind;
            int width = widths[kind];
            PlotPatch plot = withLamps(kind);
            Check.due(0, "9: patch(0, 0)", () -> plot.patch(0, 0));
            Check.due(width, "9: kind " + k + " has its addresses", () -> plot.gap(1));
            Check.due(0, "9: the highest", () -> plot.patch(0, 100 - width));
            Check.due(0, "9: below it is room", () -> plot.gap(100 - width));
            Check.due(NONE, "9: and no more", () -> plot.gap(101 - width));
            Check.refused(ARGUMENT, "9: too high", () -> plot.patch(0, 101 - width));
        }
    }

    private static void doubles() {
        PlotPatch plot = withLamps(3, 3, 2, 0);
        Check.due(0, "9: alone", () -> plot.patch(0, 10));
        Check.due(0, "9: right behind", () -> plot.patch(1, 22));
        Check.due(1, "9: one double", () -> plot.patch(1, 21));
        Check.due(12, "9: all double", () -> plot.patch(1, 10));
        Check.due(12, "9: three have four", () -> plot.patch(2, 10));
        Check.due(12, "9: four have one", () -> plot.patch(3, 12));
        Check.due(12, "9: behind them", () -> plot.patch(3, 22));
        Check.due(4, "9: none for one", () -> plot.patch(1, NONE));
        Check.due(0, "9: none for the other", () -> plot.patch(0, NONE));
        Check.due(0, "9: none again", () -> plot.patch(0, NONE));
        Check.due(1, "9: within the other one's", () -> plot.patch(2, 20));
        Check.due(false, "9: lamp 2 dies", () -> plot.bulb(2));
        Check.due(1, "9: a dead one has them still", () -> plot.patch(3, 23));
        Check.due(0, "9: right behind", () -> plot.patch(3, 24));
        Check.due(0, "9: address 0", () -> plot.patch(0, 0));
        Check.due(1, "9: address 0 of two", () -> plot.patch(3, 0));
        Check.due(0, "9: address 99", () -> plot.patch(3, 99));
        Check.due(1, "9: address 99 of two", () -> plot.patch(2, 96));
    }

    private static void patchWrong() {
        PlotPatch plot = withLamps(3);
        plot.patch(0, 5);
        Check.refused(INDEX, "9: lamp -1", () -> plot.patch(-1, 0));
        Check.refused(INDEX, "9: lamp 1", () -> plot.patch(1, 0));
        Check.refused(INDEX, "9: lamp 1 and out of range", () -> plot.patch(1, 100));
        Check.refused(ARGUMENT, "9: first -2", () -> plot.patch(0, -2));
        Check.refused(ARGUMENT, "9: first 89", () -> plot.patch(0, 89));
    }

    private static void gaps() {
        PlotPatch plot = withLamps(0, 0, 2);
        Check.due(0, "10: all is free", () -> plot.gap(100));
        plot.patch(0, 3);
        plot.patch(1, 8);
        plot.patch(2, 50);
        Check.due(0, "10: gap(1)", () -> plot.gap(1));
        Check.due(0, "10: gap(3)", () -> plot.gap(3));
        Check.due(4, "10: gap(4)", () -> plot.gap(4));
        Check.due(9, "10: gap(5)", () -> plot.gap(5));
        Check.due(9, "10: gap(41)", () -> plot.gap(41));
        Check.due(54, "10: gap(42)", () -> plot.gap(42));
        Check.due(54, "10: gap(46)", () -> plot.gap(46));
        Check.due(NONE, "10: gap(47)", () -> plot.gap(47));
        Check.due(NONE, "10: gap(100)", () -> plot.gap(100));
        plot.patch(0, 0);
        Check.due(1, "10: the first is taken", () -> plot.gap(1));
    }

    private static void gapWrong() {
        PlotPatch plot = withLamps(0);
        Check.refused(ARGUMENT, "10: gap(0)", () -> plot.gap(0));
        Check.refused(ARGUMENT, "10: gap(-1)", () -> plot.gap(-1));
        Check.refused(ARGUMENT, "10: gap(101)", () -> plot.gap(101));
    }

    private static void plugs() {
        PlotPatch plot = withLamps(0, 0);
        Check.due(NONE, "11: none before", () -> plot.plug(0, 0));
        Check.due(0, "11: 0 before", () -> plot.plug(0, 3));
        Check.due(3, "11: 3 before", () -> plot.plug(0, 3));
        Check.due(NONE, "11: the other one", () -> plot.plug(1, NONE));
        Check.due(3, "11: off it", () -> plot.plug(0, NONE));
        Check.due(NONE, "11: none before", () -> plot.plug(0, 1));
    }

    private static void plugWrong() {
        PlotPatch plot = withLamps(0);
        plot.plug(0, 2);
        Check.refused(INDEX, "11: lamp -1", () -> plot.plug(-1, 0));
        Check.refused(INDEX, "11: lamp 1", () -> plot.plug(1, NONE));
        Check.refused(INDEX, "11: circuit 4", () -> plot.plug(0, 4));
        Check.refused(INDEX, "11: circuit -2", () -> plot.plug(0, -2));
        Check.due(2, "11: it is where it was", () -> plot.plug(0, 0));
    }

    private static PlotPatch lit(int level, int... kinds) {
        PlotPatch plot = withLamps(kinds);
        plot.bar(0, 100, 500);
        plot.cue(0, PlotPatch.LINEAR, NONE);
        for (int lamp = 0; lamp < kinds.length; lamp++) {
            plot.hang(lamp, 0, 5 * lamp);
            plot.plug(lamp, 1);
            plot.name(0, lamp, level);
        }
        return plot;
    }

    private static void loads() {
        int[] watts = {1000, 750, 500, 800};
        for (int kind = 0; kind < 4; kind++) {
            int k = kind;
            PlotPatch plot = lit(100, kind);
            Check.due(0, "12: dark", () -> plot.load(1));
            plot.go();
            Check.due(watts[k], "12: kind " + k, () -> plot.load(1));
            Check.due(0, "12: another circuit", () -> plot.load(2));
        }
        PlotPatch odd = lit(33, 1, 1, 1);
        odd.go();
        Check.due(741, "12: each rounded down by itself", () -> odd.load(1));
        odd.plug(1, 0);
        Check.due(494, "12: one on another circuit", () -> odd.load(1));
        Check.due(247, "12: which bears it", () -> odd.load(0));
        odd.plug(0, NONE);
        Check.due(247, "12: one on none", () -> odd.load(1));
        Check.due(0, "12: circuit 3", () -> odd.load(3));
    }

    private static void loadOfDark() {
        PlotPatch plot = lit(50, 0, 0, 0);
        plot.go();
        Check.due(1500, "12: all three", () -> plot.load(1));
        plot.bulb(0);
        Check.due(1000, "12: one is dead", () -> plot.load(1));
        plot.down(1);
        Check.due(500, "12: one does not hang", () -> plot.load(1));
        Check.refused(INDEX, "12: circuit -1", () -> plot.load(-1));
        Check.refused(INDEX, "12: circuit 4", () -> plot.load(4));
    }
}
