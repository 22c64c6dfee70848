/** Plots for the tests of edges: one in the middle of its show, and one that is full. */
final class Stages {
    static final int NONE = PlotPatch.NONE;
    static final int SOME_LAMPS = 5;
    static final int SOME_CUES = 4;

    private Stages() {
    }

    static PlotPatch some() {
        PlotPatch plot = new PlotPatch();
        some(plot);
        return plot;
    }

    static PlotPatch full() {
        PlotPatch plot = new PlotPatch();
        full(plot);
        return plot;
    }

    /** Room for more of everything; lamp 2 is dead, lamp 4 does not hang, cue 1 fades. */
    static void some(PlotPatch plot) {
        plot.bar(0, 40, 60);
        plot.bar(0, 9, 30);
        plot.bar(1, 30, 500);
        plot.bar(1, 9, 20);
        plot.bar(1, 7, 500);
        plot.lamp(PlotPatch.PAR, 3);
        plot.lamp(PlotPatch.PROFILE, 0);
        plot.lamp(PlotPatch.WASH, 20);
        plot.lamp(PlotPatch.MOVER, 7);
        plot.lamp(PlotPatch.PAR, 7);
        plot.hang(0, 0, 10);
        plot.hang(1, 0, 30);
        plot.hang(3, 0, 20);
        plot.hang(2, 1, 0);
        plot.patch(0, 0);
        plot.patch(1, 50);
        plot.patch(2, 48);
        plot.patch(3, 88);
        plot.plug(0, 0);
        plot.plug(1, 3);
        plot.plug(3, 0);
        plot.plug(4, 2);
        plot.cue(0, PlotPatch.LINEAR, 2);
        plot.cue(10, PlotPatch.SLOW, NONE);
        plot.cue(5, PlotPatch.SNAP, 0);
        plot.cue(50, PlotPatch.LINEAR, 50);
        plot.name(0, 0, 90);
        plot.name(0, 1, 85);
        plot.name(0, 2, 100);
        plot.name(1, 1, 15);
        plot.name(1, 3, 81);
        plot.name(2, 0, 0);
        plot.name(2, 4, 100);
        plot.name(3, 2, 33);
        plot.name(3, 3, 0);
        plot.bulb(2);
        plot.go();
        plot.tick(8);
    }

    /** As many bars, lamps and cues as can be; all cues have begun. */
    static void full(PlotPatch plot) {
        int[] lengths = {100, 50, 9, 0};
        int[] limits = {500, 46, 13, 25};
        for (int bar = 0; bar < 4; bar++) {
            plot.bar(0, lengths[bar], limits[bar]);
            plot.bar(1, 90 - 10 * bar, 100);
        }
        int[] places = {0, 25, 50, 75, 100, 0, 25, 50, 0, 9};
        int[] firsts = {99, 98, 0, 10, 97, 96, 4, 22, 99, 34};
        for (int lamp = 0; lamp < 10; lamp++) {
            plot.lamp(lamp % 4, 2 * lamp);
            plot.hang(lamp, lamp < 5 ? 0 : lamp < 8 ? 1 : 2, places[lamp]);
            plot.patch(lamp, firsts[lamp]);
            plot.plug(lamp, lamp % 4);
        }
        int[] follows = {0, 1, 0, 2, NONE, 3, 0, 50};
        for (int cue = 0; cue < 8; cue++) {
            plot.cue(5 * cue, cue % 3, follows[cue]);
            plot.name(cue, cue, 100 - cue);
            plot.name(cue, cue + 1, 10 * cue);
            plot.name(cue, (cue + 5) % 10, 84);
        }
        plot.go();
        plot.tick(3);
        plot.go();
        plot.tick(3);
        plot.tick(6);
    }
}
