/** Promises 13 to 17: cue, name, go, tick, rewind. */
public final class CuesTest {
    private static final Class<?> INDEX = IndexOutOfBoundsException.class;
    private static final Class<?> ARGUMENT = IllegalArgumentException.class;
    private static final Class<?> STATE = IllegalStateException.class;
    private static final int NONE = PlotPatch.NONE;
    private static final int LINEAR = PlotPatch.LINEAR;
    private static final int SLOW = PlotPatch.SLOW;
    private static final int SNAP = PlotPatch.SNAP;

    public static void main(String[] args) {
        cues();
        names();
        nameWrong();
        nameAfterwards();
        goes();
        goesOn();
        goChain();
        curves();
        fallingCurves();
        interruptedFade();
        keepsWhatItDoesNotName();
        ticks();
        follows();
        followOvertaken();
        followMissed();
        followChain();
        rewinds();
        Check.finish("CuesTest");
    }

    private static PlotPatch withLamps(int many) {
        PlotPatch plot = new PlotPatch();
        for (int lamp = 0; lamp < many; lamp++) {
            plot.lamp(PlotPatch.PAR, 0);
        }
        return plot;
    }

    private static void wants(PlotPatch plot, int lamp, int level, String what) {
        Check.due(level, what + ": wanted(" + lamp + ")", () -> plot.wanted(lamp));
        Check.due(level, what + ": wantedByCues(" + lamp + ")", () -> plot.wantedByCues(lamp));
    }

    private static void cues() {
        PlotPatch plot = withLamps(1);
        Check.refused(ARGUMENT, "13: fade -1", () -> plot.cue(-1, 0, 0));
        Check.refused(ARGUMENT, "13: fade 51", () -> plot.cue(51, 0, 0));
        Check.refused(ARGUMENT, "13: curve -1", () -> plot.cue(0, -1, 0));
        Check.refused(ARGUMENT, "13: curve 3", () -> plot.cue(0, 3, 0));
        Check.refused(ARGUMENT, "13: follow -2", () -> plot.cue(0, 0, -2));
        Check.refused(ARGUMENT, "13: follow 51", () -> plot.cue(0, 0, 51));
        Check.refused(STATE, "13: there is none yet", plot::go);
        Check.due(0, "13: cue(0, LINEAR, NONE)", () -> plot.cue(0, LINEAR, NONE));
        Check.due(1, "13: cue(50, SNAP, 50)", () -> plot.cue(50, SNAP, 50));
        Check.due(2, "13: cue(0, SLOW, 0)", () -> plot.cue(0, SLOW, 0));
        for (int number = 3; number < 8; number++) {
            int n = number;
            Check.due(n, "13: cue", () -> plot.cue(1, 1, 1));
        }
        Check.refused(STATE, "13: a ninth cue", () -> plot.cue(0, 0, 0));
        Check.refused(ARGUMENT, "13: a ninth cue out of range", () -> plot.cue(51, 0, 0));
        Check.due(0, "13: it names nothing", plot::go);
        wants(plot, 0, 0, "13");
    }

    private static void names() {
        PlotPatch plot = withLamps(10);
        for (int cue = 0; cue < 8; cue++) {
            plot.cue(0, 0, NONE);
        }
        for (int cue = 0; cue < 8; cue++) {
            for (int lamp = 0; lamp < 10; lamp++) {
                int c = cue;
                int l = lamp;
                Check.due(NONE, "14: none before", () -> plot.name(c, l, 10 * c + l));
            }
        }
        for (int cue = 0; cue < 8; cue++) {
            for (int lamp = 0; lamp < 10; lamp++) {
                int c = cue;
                int l = lamp;
                Check.due(10 * c + l, "14: the level before", () -> plot.name(c, l, NONE));
            }
        }
        Check.due(NONE, "14: none again", () -> plot.name(0, 0, 0));
        Check.due(0, "14: 0 is a level", () -> plot.name(0, 0, 100));
        Check.due(100, "14: 100 is a level", () -> plot.name(0, 0, NONE));
    }

    private static void nameWrong() {
        PlotPatch plot = withLamps(1);
        plot.cue(0, 0, NONE);
        plot.name(0, 0, 70);
        Check.refused(INDEX, "14: cue -1", () -> plot.name(-1, 0, 0));
        Check.refused(INDEX, "14: cue 1", () -> plot.name(1, 0, 0));
        Check.refused(INDEX, "14: lamp -1", () -> plot.name(0, -1, 0));
        Check.refused(INDEX, "14: lamp 1", () -> plot.name(0, 1, 0));
        Check.refused(INDEX, "14: lamp 1 and level 101", () -> plot.name(0, 1, 101));
        Check.refused(INDEX, "14: cue 1 and level 101", () -> plot.name(1, 0, 101));
        Check.refused(ARGUMENT, "14: level 101", () -> plot.name(0, 0, 101));
        Check.refused(ARGUMENT, "14: level -2", () -> plot.name(0, 0, -2));
        Check.due(70, "14: it names what it named", () -> plot.name(0, 0, 70));
    }

    private static void nameAfterwards() {
        PlotPatch plot = withLamps(2);
        plot.cue(10, LINEAR, NONE);
        plot.name(0, 0, 100);
        plot.go();
        plot.tick(5);
        plot.name(0, 0, 20);
        plot.name(0, 1, 30);
        wants(plot, 0, 50, "14: what has begun goes on");
        wants(plot, 1, 0, "14: what was not named then");
        plot.tick(5);
        wants(plot, 0, 100, "14: up to what was named then");
        plot.rewind();
        plot.go();
        plot.tick(10);
        wants(plot, 0, 20, "14: begun anew");
        wants(plot, 1, 30, "14: begun anew");
        plot.name(0, 0, NONE);
        wants(plot, 0, 20, "14: none named afterwards");
    }

    private static void goes() {
        PlotPatch plot = withLamps(1);
        plot.cue(0, 0, NONE);
        plot.cue(0, 0, NONE);
        Check.due(0, "15: the first one", plot::go);
        Check.due(1, "15: the one behind it", plot::go);
        Check.refused(STATE, "15: no next one", plot::go);
        plot.cue(0, 0, NONE);
        Check.due(2, "15: an added one", plot::go);
        Check.due(3, "15: they count as begun", plot::rewind);
        Check.due(0, "15: the first one again", plot::go);
    }

    private static void goesOn() {
        PlotPatch plot = withLamps(1);
        plot.cue(5, LINEAR, NONE);
        plot.cue(5, LINEAR, NONE);
        plot.name(0, 0, 50);
        plot.name(1, 0, 100);
        Check.due(0, "15: go", plot::go);
        wants(plot, 0, 0, "15: it begins at what it is");
        plot.tick(2);
        wants(plot, 0, 20, "15: it goes");
        Check.due(1, "15: go in the middle", plot::go);
        wants(plot, 0, 20, "15: on from there");
        plot.tick(1);
        wants(plot, 0, 36, "15: by the next one");
    }

    private static void goChain() {
        PlotPatch plot = withLamps(2);
        plot.cue(0, LINEAR, 0);
        plot.cue(10, LINEAR, 0);
        plot.cue(0, LINEAR, NONE);
        plot.cue(0, LINEAR, 0);
        plot.name(0, 0, 60);
        plot.name(1, 0, 80);
        plot.name(2, 1, 7);
        Check.due(2, "15: three begin", plot::go);
        wants(plot, 0, 60, "15: right behind, from what was reached");
        wants(plot, 1, 7, "15: the third one");
        plot.tick(5);
        wants(plot, 0, 70, "15: half the fade");
        Check.due(3, "15: the last one has none behind it", plot::go);
        Check.due(4, "15: a cue for later", () -> plot.cue(0, 0, 0));
        Check.due(0, "15: it came too late to follow", () -> plot.tick(50));
        Check.due(4, "15: it is the next one", plot::go);
        Check.due(5, "15: all have begun", plot::rewind);
    }

    private static void curves() {
        int[][] due = {
            {0, 33, 66, 100, 100},
            {0, 11, 44, 100, 100},
            {0, 0, 0, 100, 100},
        };
        for (int curve = 0; curve < 3; curve++) {
            PlotPatch plot = withLamps(1);
            plot.cue(3, curve, NONE);
            plot.name(0, 0, 100);
            plot.go();
            for (int d = 0; d < 5; d++) {
                wants(plot, 0, due[curve][d], "19: curve " + curve + " after " + d);
                plot.tick(1);
            }
            PlotPatch fast = withLamps(1);
            fast.cue(0, curve, NONE);
            fast.name(0, 0, 99);
            fast.go();
            wants(fast, 0, 99, "19: a fade of 0");
        }
    }

    private static void fallingCurves() {
        // From 100 to 0 in 3: 66.67, 33.33 and 88.89, 55.56, rounded down to the lesser number.
        int[][] due = {
            {100, 66, 33, 0, 0},
            {100, 88, 55, 0, 0},
            {100, 100, 100, 0, 0},
        };
        for (int curve = 0; curve < 3; curve++) {
            PlotPatch plot = withLamps(1);
            plot.cue(0, LINEAR, 0);
            plot.cue(3, curve, NONE);
            plot.name(0, 0, 100);
            plot.name(1, 0, 0);
            Check.due(1, "19: both begin", plot::go);
            for (int d = 0; d < 5; d++) {
                wants(plot, 0, due[curve][d], "19: curve " + curve + " falling after " + d);
                plot.tick(1);
            }
        }
    }

    private static void interruptedFade() {
        PlotPatch plot = withLamps(1);
        plot.cue(7, SLOW, NONE);
        plot.cue(50, SLOW, NONE);
        plot.name(0, 0, 95);
        plot.name(1, 0, 3);
        plot.go();
        plot.tick(5);
        wants(plot, 0, 48, "19: 95 * 25 / 49");
        plot.go();
        wants(plot, 0, 48, "19: on from there");
        plot.tick(49);
        wants(plot, 0, 4, "19: 48 - 45 * 2401 / 2500");
        plot.tick(1);
        wants(plot, 0, 3, "19: it is there");
    }

    private static void keepsWhatItDoesNotName() {
        PlotPatch plot = withLamps(3);
        plot.cue(10, LINEAR, NONE);
        plot.cue(2, SNAP, NONE);
        plot.name(0, 0, 100);
        plot.name(0, 1, 50);
        plot.name(1, 1, 0);
        plot.go();
        plot.tick(3);
        plot.go();
        plot.tick(1);
        wants(plot, 0, 40, "19: not named, it goes on");
        wants(plot, 1, 15, "19: named, it waits");
        wants(plot, 2, 0, "19: never named");
        plot.tick(1);
        wants(plot, 0, 50, "19: not named, it goes on");
        wants(plot, 1, 0, "19: named, it snaps");
        plot.tick(5);
        wants(plot, 0, 100, "19: up to the end");
    }

    private static void ticks() {
        PlotPatch plot = withLamps(1);
        plot.cue(50, LINEAR, NONE);
        plot.name(0, 0, 50);
        plot.go();
        Check.refused(ARGUMENT, "16: tick(0)", () -> plot.tick(0));
        Check.refused(ARGUMENT, "16: tick(-1)", () -> plot.tick(-1));
        Check.refused(ARGUMENT, "16: tick(51)", () -> plot.tick(51));
        Check.due(0, "16: tick(1)", () -> plot.tick(1));
        wants(plot, 0, 1, "16: one tick");
        Check.due(0, "16: tick(48)", () -> plot.tick(48));
        wants(plot, 0, 49, "16: 49 ticks");
        Check.due(0, "16: tick(50)", () -> plot.tick(50));
        wants(plot, 0, 50, "16: 99 ticks");
    }

    private static void follows() {
        PlotPatch plot = withLamps(1);
        plot.cue(2, LINEAR, 1);
        plot.cue(4, LINEAR, 3);
        plot.cue(0, LINEAR, 50);
        plot.name(0, 0, 100);
        plot.name(1, 0, 0);
        plot.name(2, 0, 7);
        Check.due(0, "16: none begins by itself", () -> plot.tick(50));
        plot.go();
        Check.due(1, "16: one follows", () -> plot.tick(1));
        wants(plot, 0, 50, "16: it goes from what was reached");
        Check.due(0, "16: 2 ticks", () -> plot.tick(2));
        wants(plot, 0, 25, "16: half the fade");
        Check.due(1, "16: the third one", () -> plot.tick(1));
        wants(plot, 0, 7, "16: at once");
        Check.due(0, "16: none is left", () -> plot.tick(50));
        Check.due(3, "16: all have begun", plot::rewind);
        plot.go();
        Check.due(2, "16: two in one call", () -> plot.tick(4));
    }

    private static void followOvertaken() {
        PlotPatch plot = withLamps(1);
        plot.cue(0, LINEAR, 3);
        plot.cue(0, LINEAR, NONE);
        plot.cue(0, LINEAR, 4);
        plot.cue(0, LINEAR, NONE);
        plot.go();
        plot.tick(2);
        Check.due(1, "16: by hand before it follows", plot::go);
        Check.due(0, "16: it does not follow any more", () -> plot.tick(10));
        Check.due(2, "16: by hand", plot::go);
        Check.due(0, "16: not yet", () -> plot.tick(3));
        Check.due(1, "16: 4 ticks since it began", () -> plot.tick(1));
        plot.rewind();
        plot.go();
        plot.tick(2);
        plot.rewind();
        Check.due(0, "16: nothing follows after rewind", () -> plot.tick(5));
        plot.go();
        Check.due(0, "16: counted anew", () -> plot.tick(2));
        Check.due(1, "16: 3 ticks since it began anew", () -> plot.tick(1));
    }

    private static void followMissed() {
        PlotPatch plot = withLamps(1);
        plot.cue(0, LINEAR, 3);
        plot.go();
        Check.due(0, "16: there is none then", () -> plot.tick(3));
        plot.cue(0, LINEAR, NONE);
        Check.due(0, "16: it came too late", () -> plot.tick(50));
        Check.due(1, "16: by hand", plot::go);
        PlotPatch early = withLamps(1);
        early.cue(0, LINEAR, 3);
        early.go();
        early.tick(2);
        early.cue(0, LINEAR, NONE);
        Check.due(1, "16: it came in time", () -> early.tick(1));
    }

    private static void followChain() {
        PlotPatch plot = withLamps(1);
        plot.cue(0, LINEAR, 2);
        plot.cue(0, LINEAR, 0);
        plot.cue(4, LINEAR, 0);
        plot.cue(2, LINEAR, 1);
        plot.cue(0, LINEAR, NONE);
        plot.name(1, 0, 90);
        plot.name(2, 0, 50);
        plot.name(4, 0, 1);
        Check.due(0, "16: go", plot::go);
        Check.due(0, "16: not yet", () -> plot.tick(1));
        Check.due(3, "16: three in one tick", () -> plot.tick(1));
        wants(plot, 0, 90, "16: the fade begins");
        Check.due(1, "16: the last one", () -> plot.tick(1));
        wants(plot, 0, 1, "16: at once");
    }

    private static void rewinds() {
        PlotPatch plot = withLamps(2);
        plot.cue(10, LINEAR, NONE);
        plot.cue(0, LINEAR, NONE);
        plot.name(0, 0, 100);
        plot.name(1, 1, 40);
        Check.due(0, "17: none had begun", plot::rewind);
        plot.go();
        Check.due(1, "17: one had begun", plot::rewind);
        plot.go();
        plot.tick(5);
        plot.go();
        wants(plot, 0, 50, "17: before");
        wants(plot, 1, 40, "17: before");
        Check.due(2, "17: two had begun", plot::rewind);
        wants(plot, 0, 0, "17: after");
        wants(plot, 1, 0, "17: after");
        plot.tick(10);
        wants(plot, 0, 0, "17: nothing goes on");
        Check.due(0, "17: twice", plot::rewind);
        Check.due(0, "17: the first one again", plot::go);
        plot.tick(5);
        wants(plot, 0, 50, "17: from 0 again");
        Check.due(100, "17: it names what it named", () -> plot.name(0, 0, 100));
    }
}
