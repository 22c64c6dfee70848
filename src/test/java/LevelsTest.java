/** Promises 18 to 24: level, wanted, wantedByCues, bulb, standIn, colour, burnt. */
public final class LevelsTest {
    private static final Class<?> INDEX = IndexOutOfBoundsException.class;
    private static final Class<?> ARGUMENT = IllegalArgumentException.class;
    private static final Class<?> STATE = IllegalStateException.class;
    private static final int NONE = PlotPatch.NONE;

    public static void main(String[] args) {
        levels();
        levelsWrong();
        bulbs();
        standIns();
        standInAll();
        standInBegun();
        standInWrong();
        colours();
        burns();
        burnsOnlyWhatShines();
        burnsAfterFollow();
        burntSet();
        Check.finish("LevelsTest");
    }

    /** Some PARs, hung side by side, and a cue at once that names the level for all of them. */
    private static PlotPatch lit(int many, int level) {
        PlotPatch plot = new PlotPatch();
        plot.bar(0, 100, 500);
        plot.cue(0, PlotPatch.LINEAR, NONE);
        for (int lamp = 0; lamp < many; lamp++) {
            plot.lamp(PlotPatch.PAR, lamp);
            plot.hang(lamp, 0, 10 * lamp);
            plot.name(0, lamp, level);
        }
        return plot;
    }

    private static void levels() {
        PlotPatch plot = lit(3, 64);
        Check.due(0, "18: at first", () -> plot.level(0));
        Check.due(0, "19: at first", () -> plot.wanted(0));
        Check.due(0, "20: at first", () -> plot.wantedByCues(0));
        plot.go();
        plot.down(1);
        plot.bulb(2);
        Check.due(64, "18: it hangs and lives", () -> plot.level(0));
        Check.due(0, "18: it does not hang", () -> plot.level(1));
        Check.due(0, "18: it is dead", () -> plot.level(2));
        for (int lamp = 0; lamp < 3; lamp++) {
            int n = lamp;
            Check.due(64, "19: wanted all the same", () -> plot.wanted(n));
            Check.due(64, "20: wanted all the same", () -> plot.wantedByCues(n));
        }
        plot.hang(1, 0, 10);
        plot.bulb(2);
        Check.due(64, "18: it hangs again", () -> plot.level(1));
        Check.due(64, "18: it lives again", () -> plot.level(2));
        plot.tour();
        Check.due(0, "18: no bar in that house", () -> plot.level(0));
        Check.due(64, "19: wanted there too", () -> plot.wanted(0));
    }

    private static void levelsWrong() {
        PlotPatch plot = lit(2, 64);
        plot.go();
        for (int lamp : new int[] {-1, 2, 10, Integer.MIN_VALUE, Integer.MAX_VALUE}) {
            Check.refused(INDEX, "18: level(" + lamp + ")", () -> plot.level(lamp));
            Check.refused(INDEX, "19: wanted(" + lamp + ")", () -> plot.wanted(lamp));
            Check.refused(INDEX, "20: wantedByCues(" + lamp + ")", () -> plot.wantedByCues(lamp));
            Check.refused(INDEX, "21: bulb(" + lamp + ")", () -> plot.bulb(lamp));
            Check.refused(INDEX, "22: standIn(" + lamp + ", 0)", () -> plot.standIn(lamp, 0));
            Check.refused(INDEX, "22: standIn(0, " + lamp + ")", () -> plot.standIn(0, lamp));
            Check.refused(INDEX, "22: standIn of one none", () -> plot.standIn(lamp, lamp));
            Check.refused(INDEX, "23: colour(" + lamp + ", 0)", () -> plot.colour(lamp, 0));
            Check.refused(INDEX, "23: colour of none, out of range", () -> plot.colour(lamp, 21));
        }
    }

    private static void bulbs() {
        PlotPatch plot = lit(2, 30);
        Check.due(false, "21: it dies", () -> plot.bulb(0));
        Check.due(true, "21: it lives", () -> plot.bulb(0));
        Check.due(false, "21: it dies again", () -> plot.bulb(0));
        plot.go();
        Check.due(0, "21: the dead one", () -> plot.level(0));
        Check.due(30, "21: the other one", () -> plot.level(1));
        Check.due(true, "21: a new bulb", () -> plot.bulb(0));
        Check.due(30, "21: it shines at once", () -> plot.level(0));
    }

    private static void standIns() {
        PlotPatch plot = lit(3, 30);
        plot.cue(0, 0, NONE);
        plot.cue(0, 0, NONE);
        plot.name(0, 1, NONE);
        plot.name(1, 1, 55);
        plot.name(2, 0, 0);
        plot.name(2, 1, 99);
        plot.bulb(0);
        Check.due(2, "22: in two cues", () -> plot.standIn(0, 1));
        Check.due(NONE, "22: none for the dead one", () -> plot.name(0, 0, NONE));
        Check.due(NONE, "22: none for the dead one", () -> plot.name(2, 0, NONE));
        Check.due(30, "22: for the other one", () -> plot.name(0, 1, 30));
        Check.due(55, "22: where the dead one was not named", () -> plot.name(1, 1, 55));
        Check.due(0, "22: a level of 0 too", () -> plot.name(2, 1, 0));
        Check.due(30, "22: the third one", () -> plot.name(0, 2, 30));
        Check.due(0, "22: nothing is left", () -> plot.standIn(0, 1));
        Check.due(30, "22: it names it still", () -> plot.name(0, 1, 30));
    }

    private static void standInAll() {
        PlotPatch plot = lit(10, 30);
        for (int cue = 1; cue < 8; cue++) {
            plot.cue(0, 0, NONE);
            plot.name(cue, 9, cue);
        }
        plot.bulb(9);
        Check.due(8, "22: in all eight cues", () -> plot.standIn(9, 8));
        for (int cue = 1; cue < 8; cue++) {
            int c = cue;
            Check.due(c, "22: each with its level", () -> plot.name(c, 8, c));
        }
    }

    private static void standInBegun() {
        PlotPatch plot = lit(2, 30);
        plot.cue(10, PlotPatch.LINEAR, NONE);
        plot.name(0, 1, NONE);
        plot.name(1, 0, 80);
        plot.go();
        plot.go();
        plot.tick(5);
        plot.bulb(0);
        Check.due(2, "22: in two cues", () -> plot.standIn(0, 1));
        Check.due(55, "22: what has begun", () -> plot.wanted(0));
        plot.tick(5);
        Check.due(80, "22: goes on", () -> plot.wantedByCues(0));
        Check.due(0, "22: the other one waits", () -> plot.wantedByCues(1));
        plot.rewind();
        plot.go();
        Check.due(0, "22: begun anew", () -> plot.wanted(0));
        Check.due(30, "22: begun anew", () -> plot.wanted(1));
    }

    private static void standInWrong() {
        PlotPatch plot = lit(3, 30);
        Check.refused(STATE, "22: it lives", () -> plot.standIn(0, 1));
        Check.refused(ARGUMENT, "22: itself, alive", () -> plot.standIn(0, 0));
        plot.bulb(0);
        Check.refused(ARGUMENT, "22: itself, dead", () -> plot.standIn(0, 0));
        Check.refused(STATE, "22: the other way round", () -> plot.standIn(1, 0));
        plot.bulb(1);
        Check.refused(STATE, "22: both are dead", () -> plot.standIn(0, 1));
        Check.due(30, "22: named as before", () -> plot.name(0, 0, 30));
        Check.due(30, "22: named as before", () -> plot.name(0, 1, 30));
        Check.due(1, "22: the living one", () -> plot.standIn(0, 2));
    }

    private static void colours() {
        PlotPatch plot = lit(2, 100);
        Check.due(0, "23: the first colour", () -> plot.colour(0, 20));
        Check.due(20, "23: the colour before", () -> plot.colour(0, 0));
        Check.due(1, "23: the other one's", () -> plot.colour(1, 1));
        Check.refused(ARGUMENT, "23: colour -1", () -> plot.colour(0, -1));
        Check.refused(ARGUMENT, "23: colour 21", () -> plot.colour(0, 21));
        Check.due(0, "23: as it was", () -> plot.colour(0, 0));
        plot.go();
        plot.tick(29);
        Check.due(1, "23: the same colour anew", () -> plot.colour(1, 1));
        plot.tick(1);
        Check.due(1, "23: only the old one is burnt", plot::burnt);
        Check.refused(ARGUMENT, "23: burnt, colour 21", () -> plot.colour(0, 21));
        plot.tick(28);
        Check.due(1, "23: 29 ticks", plot::burnt);
        plot.tick(1);
        Check.due(3, "23: 30 ticks", plot::burnt);
        Check.due(0, "23: a new one", () -> plot.colour(0, 5));
        Check.due(2, "23: is not burnt", plot::burnt);
    }

    private static void burns() {
        PlotPatch above = lit(1, 81);
        above.go();
        above.tick(29);
        Check.due(0, "24: 29 ticks", above::burnt);
        above.tick(1);
        Check.due(1, "24: 30 ticks", above::burnt);
        above.bulb(0);
        Check.due(1, "24: dead it is burnt still", above::burnt);
        above.rewind();
        Check.due(1, "24: rewind mends nothing", above::burnt);
        above.tour();
        Check.due(1, "24: nor does the tour", above::burnt);
        PlotPatch below = lit(1, 80);
        below.go();
        below.tick(50);
        below.tick(50);
        Check.due(0, "24: 80 does not burn", below::burnt);
    }

    private static void burnsOnlyWhatShines() {
        PlotPatch plot = lit(3, 100);
        plot.go();
        plot.tick(15);
        plot.bulb(0);
        plot.down(1);
        plot.tick(50);
        Check.due(4, "24: dark ones do not burn", plot::burnt);
        plot.bulb(0);
        plot.hang(1, 0, 50);
        plot.tick(14);
        Check.due(4, "24: 15 and 14 ticks", plot::burnt);
        plot.tick(1);
        Check.due(7, "24: 15 and 15 ticks", plot::burnt);
    }

    private static void burnsAfterFollow() {
        // The cue begins in the tick before the burning of that tick is counted.
        PlotPatch follow = new PlotPatch();
        follow.bar(0, 0, 500);
        follow.lamp(0, 0);
        follow.hang(0, 0, 0);
        follow.cue(0, 0, 5);
        follow.cue(0, 0, 30);
        follow.cue(0, 0, NONE);
        follow.name(1, 0, 100);
        follow.name(2, 0, 0);
        follow.go();
        Check.due(1, "24: it begins in tick 5", () -> follow.tick(33));
        Check.due(0, "24: 29 burning ticks", follow::burnt);
        follow.tick(1);
        Check.due(1, "24: 30 burning ticks, 5 to 34", follow::burnt);
        follow.colour(0, 0);
        Check.due(1, "24: the dark one begins in tick 35", () -> follow.tick(1));
        follow.rewind();
        follow.go();
        Check.due(2, "24: tick 5 to 34 again", () -> follow.tick(50));
        Check.due(1, "24: 30 of them", follow::burnt);
        // A fade from 0 to 100 in 10 is above 80 from the ninth tick on.
        PlotPatch fade = lit(1, NONE);
        fade.cue(10, PlotPatch.LINEAR, NONE);
        fade.name(1, 0, 100);
        fade.go();
        fade.go();
        fade.tick(37);
        Check.due(0, "24: 29 ticks above 80", fade::burnt);
        fade.tick(1);
        Check.due(1, "24: 30 ticks above 80", fade::burnt);
    }

    private static void burntSet() {
        PlotPatch plot = lit(10, 100);
        for (int lamp = 0; lamp < 10; lamp += 2) {
            plot.name(0, lamp, 0);
        }
        plot.go();
        plot.tick(30);
        Check.due(0x2AA, "24: the odd ones", plot::burnt);
        plot.colour(9, 0);
        Check.due(0x0AA, "24: all but one", plot::burnt);
    }
}
