/** The sentences of "Terms" on cues, ticks, levels and burning, one after the other. */
public final class ShowTermsTest {
    private static final Class<?> STATE = IllegalStateException.class;
    private static final int NONE = PlotPatch.NONE;
    private static final int LINEAR = PlotPatch.LINEAR;
    private static final int SLOW = PlotPatch.SLOW;
    private static final int SNAP = PlotPatch.SNAP;

    public static void main(String[] args) {
        eachLampAtFirst0();
        onceDIsFOrMore();
        fadeOf0();
        longestFade();
        roundedDownRising();
        roundedDownFalling();
        allFades();
        fromWhatItIs();
        notNamedGoOn();
        namedThen();
        followOf0();
        followOf0WithoutNext();
        followOf0FromWhatItIs();
        followOfMore();
        followOfMoreThenChain();
        nextOneIfThereIsOneThen();
        unlessAnotherHasBegun();
        anotherOnesOwnFollow();
        noFollowAfterRewind();
        goAtOnce();
        timeGrowsFirst();
        thenACueThatFollowsBegins();
        thenBurningIsCounted();
        eachTickOfACall();
        above80();
        at30OrMore();
        burnsIfItHangsAndLives();
        loadRoundsEachLamp();
        standInOfWhatHasBegun();
        Check.finish("ShowTermsTest");
    }

    /** Some PARs on one bar. */
    private static PlotPatch pars(int many) {
        PlotPatch plot = new PlotPatch();
        plot.bar(0, 100, 500);
        for (int lamp = 0; lamp < many; lamp++) {
            plot.lamp(PlotPatch.PAR, 0);
            plot.hang(lamp, 0, 10 * lamp);
        }
        return plot;
    }

    /** A cue that names a level for lamp 0 alone. */
    private static void cue(PlotPatch plot, int fade, int curve, int follow, int level) {
        int cue = plot.cue(fade, curve, follow);
        plot.name(cue, 0, level);
    }

    private static void wants(String what, PlotPatch plot, int lamp, int level) {
        Check.due(level, "19: " + what, () -> plot.wanted(lamp));
        Check.due(level, "20: " + what, () -> plot.wantedByCues(lamp));
    }

    private static void ticks(String what, PlotPatch plot, int ticks, int begun) {
        Check.due(begun, "16: " + what, () -> plot.tick(ticks));
    }

    private static void eachLampAtFirst0() {
        PlotPatch plot = pars(2);
        wants("each lamp has a wanted level, at first 0", plot, 1, 0);
        cue(plot, 0, LINEAR, NONE, 50);
        plot.go();
        wants("a lamp that no cue has named is at 0", plot, 1, 0);
        plot.lamp(0, 0);
        wants("a lamp that was added since is at 0", plot, 2, 0);
    }

    /** "once d is f or more, the named one", by each curve; one tick before it is not. */
    private static void onceDIsFOrMore() {
        int[] before = {90, 81, 0};
        for (int curve = LINEAR; curve <= SNAP; curve++) {
            PlotPatch plot = pars(1);
            cue(plot, 10, curve, NONE, 100);
            plot.go();
            plot.tick(9);
            wants("d is f - 1, curve " + curve, plot, 0, before[curve]);
            plot.tick(1);
            wants("d is f, curve " + curve, plot, 0, 100);
            plot.tick(1);
            wants("d is f + 1, curve " + curve, plot, 0, 100);
            plot.tick(50);
            wants("d is much more, curve " + curve, plot, 0, 100);
        }
    }

    private static void fadeOf0() {
        for (int curve = LINEAR; curve <= SNAP; curve++) {
            PlotPatch plot = pars(1);
            cue(plot, 0, curve, NONE, 100);
            cue(plot, 1, curve, NONE, 0);
            plot.go();
            wants("a fade of 0 is there at once, curve " + curve, plot, 0, 100);
            plot.go();
            wants("a fade of 1 is not, curve " + curve, plot, 0, 100);
            plot.tick(1);
            wants("a fade of 1 is there after 1, curve " + curve, plot, 0, 0);
        }
    }

    private static void longestFade() {
        int[] before = {98, 96, 0};
        for (int curve = LINEAR; curve <= SNAP; curve++) {
            PlotPatch plot = pars(1);
            cue(plot, 50, curve, NONE, 100);
            plot.go();
            plot.tick(49);
            wants("49 of 50, curve " + curve, plot, 0, before[curve]);
            plot.tick(1);
            wants("50 of 50, curve " + curve, plot, 0, 100);
        }
    }

    private static void roundedDownRising() {
        PlotPatch linear = pars(1);
        cue(linear, 3, LINEAR, NONE, 50);
        linear.go();
        linear.tick(1);
        wants("16.67 is 16", linear, 0, 16);
        linear.tick(1);
        wants("33.33 is 33", linear, 0, 33);
        PlotPatch slow = pars(1);
        cue(slow, 3, SLOW, NONE, 50);
        slow.go();
        slow.tick(1);
        wants("5.56 is 5", slow, 0, 5);
        slow.tick(1);
        wants("22.22 is 22", slow, 0, 22);
    }

    private static void roundedDownFalling() {
        PlotPatch linear = pars(1);
        cue(linear, 0, LINEAR, 0, 50);
        cue(linear, 3, LINEAR, NONE, 0);
        linear.go();
        linear.tick(1);
        wants("33.33 is 33", linear, 0, 33);
        linear.tick(1);
        wants("16.67 is 16, not 17", linear, 0, 16);
        PlotPatch slow = pars(1);
        cue(slow, 0, LINEAR, 0, 50);
        cue(slow, 3, SLOW, NONE, 0);
        slow.go();
        slow.tick(1);
        wants("44.44 is 44, not 45", slow, 0, 44);
        slow.tick(1);
        wants("27.78 is 27, not 28", slow, 0, 27);
        PlotPatch by1 = pars(1);
        cue(by1, 0, LINEAR, 0, 1);
        cue(by1, 50, SLOW, NONE, 0);
        by1.go();
        wants("1 at first", by1, 0, 1);
        by1.tick(1);
        wants("0.9996 is 0", by1, 0, 0);
    }

    /** From some levels to others, at every tick: the greatest whole level not above the curve. */
    private static void allFades() {
        int[] levels = {0, 1, 37, 99, 100};
        for (int fade : new int[] {1, 2, 3, 7, 10, 49, 50}) {
            for (int from : levels) {
                for (int to : levels) {
                    fade(fade, LINEAR, from, to);
                    fade(fade, SLOW, from, to);
                    fade(fade, SNAP, from, to);
                }
            }
        }
    }

    private static void fade(int fade, int curve, int from, int to) {
        PlotPatch plot = pars(1);
        cue(plot, 0, LINEAR, 0, from);
        cue(plot, fade, curve, NONE, to);
        plot.go();
        for (int d = 0; d <= fade + 1; d++) {
            String what = from + " to " + to + " in " + fade + ", curve " + curve + ", after " + d;
            wants(what, plot, 0, d >= fade ? to : onTheWay(fade, curve, from, to, d));
            plot.tick(1);
        }
    }

    private static int onTheWay(int fade, int curve, int from, int to, int d) {
        int part = curve == LINEAR ? d : curve == SLOW ? d * d : 0;
        int whole = curve == SLOW ? fade * fade : fade;
        int level = 100;
        while (level * whole > from * whole + (to - from) * part) {
            level--;
        }
        return level;
    }

    /** "goes from what it is": in the middle of a fade, of another curve, up and down. */
    private static void fromWhatItIs() {
        PlotPatch plot = pars(1);
        cue(plot, 10, LINEAR, NONE, 100);
        cue(plot, 4, SLOW, NONE, 0);
        cue(plot, 3, SNAP, NONE, 90);
        cue(plot, 2, LINEAR, NONE, 100);
        plot.go();
        plot.tick(4);
        plot.go();
        wants("from 40", plot, 0, 40);
        plot.tick(2);
        wants("from 40 down to 30", plot, 0, 30);
        plot.go();
        plot.tick(2);
        wants("30 until it snaps", plot, 0, 30);
        plot.go();
        plot.tick(1);
        wants("from 30 up to 65: it has not snapped", plot, 0, 65);
        plot.tick(1);
        wants("it is there", plot, 0, 100);
    }

    /** "Lamps that a cue does not name go on as they did." */
    private static void notNamedGoOn() {
        PlotPatch plot = pars(3);
        cue(plot, 10, LINEAR, 2, 100);
        plot.cue(3, LINEAR, 3);
        plot.name(1, 1, 30);
        plot.cue(0, SNAP, NONE);
        plot.name(2, 0, 7);
        plot.name(2, 0, NONE);
        plot.go();
        ticks("the second cue follows", plot, 3, 1);
        wants("not named by the second one, lamp 0 goes on", plot, 0, 30);
        wants("named by the second one", plot, 1, 10);
        wants("named by none", plot, 2, 0);
        ticks("the third cue follows", plot, 3, 1);
        wants("named by the third one no more, lamp 0 goes on", plot, 0, 60);
        wants("not named by the third one, lamp 1 stays", plot, 1, 30);
        plot.tick(4);
        wants("lamp 0 goes on to the end", plot, 0, 100);
    }

    /** What a cue names is what it named when it began. */
    private static void namedThen() {
        PlotPatch plot = pars(2);
        cue(plot, 4, LINEAR, 2, 40);
        cue(plot, 0, LINEAR, NONE, 90);
        plot.go();
        plot.tick(1);
        plot.name(0, 0, 100);
        plot.name(0, 1, 100);
        plot.name(1, 0, 80);
        wants("the one that has begun goes on to 40", plot, 0, 10);
        wants("what was named since is not wanted", plot, 1, 0);
        ticks("the second one follows", plot, 1, 1);
        wants("it names what it names by then", plot, 0, 80);
        plot.name(1, 0, NONE);
        wants("that it names none any more changes nothing", plot, 0, 80);
    }

    /** "If a cue has a follow of 0, the next cue ... begins right behind it". */
    private static void followOf0() {
        PlotPatch plot = pars(1);
        cue(plot, 0, LINEAR, 0, 10);
        cue(plot, 0, LINEAR, 0, 20);
        cue(plot, 0, LINEAR, NONE, 30);
        cue(plot, 0, LINEAR, 0, 40);
        Check.due(2, "15: three begin, the third has no follow", plot::go);
        wants("the third has begun last", plot, 0, 30);
        ticks("the fourth does not", plot, 50, 0);
        Check.due(3, "15: the fourth", plot::go);
        Check.due(4, "17: all have begun", plot::rewind);
    }

    /** "if there is one then": a cue that is added later does not begin by a follow of 0. */
    private static void followOf0WithoutNext() {
        PlotPatch plot = pars(1);
        cue(plot, 0, LINEAR, 0, 10);
        Check.due(0, "15: there is no next one then", plot::go);
        cue(plot, 0, LINEAR, 0, 20);
        ticks("the added one does not begin by itself", plot, 50, 0);
        wants("it has not begun", plot, 0, 10);
        Check.due(1, "15: the added one", plot::go);
        Check.refused(STATE, "15: there is no next one", plot::go);
    }

    private static void followOf0FromWhatItIs() {
        PlotPatch plot = pars(1);
        cue(plot, 0, LINEAR, 0, 60);
        cue(plot, 10, LINEAR, 0, 100);
        cue(plot, 10, LINEAR, NONE, 0);
        plot.go();
        wants("60 by the first one, as both others begin", plot, 0, 60);
        plot.tick(5);
        wants("from 60 to 0 by the third one", plot, 0, 30);
    }

    /** "if of more ticks, the next cue ... begins when so many ticks have gone by since it began". */
    private static void followOfMore() {
        for (int follow : new int[] {1, 2, 49, 50}) {
            PlotPatch plot = pars(1);
            cue(plot, 0, LINEAR, follow, 10);
            cue(plot, 0, LINEAR, NONE, 20);
            plot.tick(7);
            plot.go();
            if (follow > 1) {
                ticks("not after " + (follow - 1), plot, follow - 1, 0);
                wants("not after " + (follow - 1), plot, 0, 10);
            }
            ticks("after " + follow, plot, 1, 1);
            wants("after " + follow, plot, 0, 20);
            ticks("and not again", plot, 50, 0);
            Check.due(2, "17: both have begun", plot::rewind);
        }
    }

    private static void followOfMoreThenChain() {
        PlotPatch plot = pars(1);
        cue(plot, 0, LINEAR, 2, 10);
        cue(plot, 0, LINEAR, 0, 20);
        cue(plot, 0, LINEAR, 1, 30);
        cue(plot, 0, LINEAR, 50, 40);
        cue(plot, 0, LINEAR, 1, 50);
        plot.go();
        ticks("two in tick 2", plot, 2, 2);
        wants("the second of the two", plot, 0, 30);
        ticks("one in tick 3", plot, 1, 1);
        wants("a tick after both", plot, 0, 40);
        ticks("none until tick 52", plot, 49, 0);
        ticks("one in tick 53", plot, 1, 1);
        ticks("none behind the last one", plot, 50, 0);
        plot.rewind();
        plot.go();
        ticks("three within one call", plot, 50, 3);
    }

    /** "the next cue, if there is one then": added in time, and added too late. */
    private static void nextOneIfThereIsOneThen() {
        PlotPatch inTime = pars(1);
        cue(inTime, 0, LINEAR, 5, 10);
        inTime.go();
        inTime.tick(4);
        cue(inTime, 0, LINEAR, 5, 20);
        ticks("added in time", inTime, 1, 1);
        PlotPatch late = pars(1);
        cue(late, 0, LINEAR, 5, 10);
        late.go();
        ticks("there is none then", late, 5, 0);
        cue(late, 0, LINEAR, 5, 20);
        ticks("added too late", late, 50, 0);
        wants("it has not begun", late, 0, 10);
        Check.due(1, "15: by hand", late::go);
    }

    /** "unless another one has begun by then". */
    private static void unlessAnotherHasBegun() {
        for (int ticks = 1; ticks <= 4; ticks++) {
            PlotPatch plot = pars(1);
            cue(plot, 0, LINEAR, 5, 10);
            cue(plot, 0, LINEAR, NONE, 20);
            cue(plot, 0, LINEAR, NONE, 30);
            plot.go();
            plot.tick(ticks);
            Check.due(1, "15: another one after " + ticks, plot::go);
            ticks("the third does not begin", plot, 50, 0);
            wants("the second has begun last", plot, 0, 20);
        }
    }

    private static void anotherOnesOwnFollow() {
        PlotPatch plot = pars(1);
        cue(plot, 0, LINEAR, 5, 10);
        cue(plot, 0, LINEAR, 3, 20);
        cue(plot, 0, LINEAR, NONE, 30);
        plot.go();
        plot.tick(4);
        Check.due(1, "15: another one after 4", plot::go);
        ticks("not in tick 5, nor in tick 6", plot, 2, 0);
        ticks("3 ticks since the other one began", plot, 1, 1);
        wants("the third one", plot, 0, 30);
    }

    private static void noFollowAfterRewind() {
        PlotPatch plot = pars(1);
        cue(plot, 0, LINEAR, 5, 10);
        cue(plot, 0, LINEAR, NONE, 20);
        plot.go();
        plot.tick(4);
        Check.due(1, "17: one had begun", plot::rewind);
        ticks("nothing has begun, nothing follows", plot, 1, 0);
        wants("all are at 0", plot, 0, 0);
        plot.go();
        ticks("begun anew, it counts anew", plot, 4, 0);
        ticks("begun anew, it counts anew", plot, 1, 1);
    }

    private static void goAtOnce() {
        PlotPatch plot = pars(1);
        cue(plot, 10, LINEAR, 1, 100);
        cue(plot, 10, LINEAR, 2, 50);
        cue(plot, 10, LINEAR, NONE, 0);
        plot.go();
        plot.go();
        ticks("the first one's follow is over", plot, 1, 0);
        wants("a tick of the second one, from 0", plot, 0, 5);
        ticks("the second one's follow", plot, 1, 1);
    }

    /** "With each tick the time grows by 1, then ...": the level that burns is the grown time's. */
    private static void timeGrowsFirst() {
        PlotPatch up = pars(1);
        cue(up, 1, SNAP, NONE, 100);
        up.go();
        up.tick(29);
        Check.due(0, "24: 29 ticks", up::burnt);
        up.tick(1);
        Check.due(1, "24: the first tick burnt already", up::burnt);
        PlotPatch down = pars(1);
        cue(down, 0, LINEAR, NONE, 100);
        cue(down, 1, SNAP, NONE, 0);
        down.go();
        down.tick(29);
        down.go();
        Check.due(100, "18: it is bright still", () -> down.level(0));
        down.tick(1);
        Check.due(0, "24: in tick 30 it is dark", down::burnt);
        // A cue that follows begins at the grown time, not at the time before.
        PlotPatch follow = pars(1);
        cue(follow, 0, LINEAR, 1, 0);
        cue(follow, 10, LINEAR, NONE, 100);
        follow.go();
        follow.tick(1);
        wants("it has just begun", follow, 0, 0);
        follow.tick(1);
        wants("a tick since then", follow, 0, 10);
    }

    /** "then a cue that follows begins, then the burning": bright in tick 30, dark in tick 30. */
    private static void thenACueThatFollowsBegins() {
        PlotPatch bright = pars(1);
        cue(bright, 0, LINEAR, 30, 0);
        cue(bright, 0, LINEAR, NONE, 100);
        bright.go();
        ticks("it begins in tick 30", bright, 30, 1);
        bright.tick(28);
        Check.due(0, "24: tick 30 to 58", bright::burnt);
        bright.tick(1);
        Check.due(1, "24: tick 30 to 59", bright::burnt);
        PlotPatch dark = pars(1);
        cue(dark, 0, LINEAR, 30, 100);
        cue(dark, 0, LINEAR, NONE, 0);
        dark.go();
        ticks("it begins in tick 30", dark, 30, 1);
        Check.due(0, "24: tick 1 to 29", dark::burnt);
    }

    /** "then the burning of colours is counted": by ticks alone, not by go, nor at its time. */
    private static void thenBurningIsCounted() {
        PlotPatch plot = pars(1);
        for (int cue = 0; cue < 8; cue++) {
            cue(plot, 0, LINEAR, NONE, 100);
        }
        for (int round = 0; round < 8; round++) {
            for (int cue = 0; cue < 8; cue++) {
                plot.go();
            }
            plot.rewind();
        }
        Check.due(0, "24: no tick has gone by", plot::burnt);
        plot.go();
        plot.tick(29);
        Check.due(0, "24: 29 ticks", plot::burnt);
        plot.go();
        Check.due(0, "24: 29 ticks still", plot::burnt);
        plot.rewind();
        plot.tick(50);
        Check.due(0, "24: 29 bright ticks still", plot::burnt);
        plot.go();
        plot.tick(1);
        Check.due(1, "24: 30 bright ticks", plot::burnt);
    }

    /** A call of many ticks is the same as many calls of one. */
    private static void eachTickOfACall() {
        PlotPatch many = new PlotPatch();
        PlotPatch one = new PlotPatch();
        Stages.some(many);
        Stages.some(one);
        many.rewind();
        one.rewind();
        many.go();
        one.go();
        many.tick(37);
        for (int tick = 0; tick < 37; tick++) {
            one.tick(1);
        }
        for (int lamp = 0; lamp < Stages.SOME_LAMPS; lamp++) {
            int n = lamp;
            wants("37 ticks, lamp " + n, many, n, one.wanted(n));
        }
        Check.due(one.burnt(), "24: 37 ticks", many::burnt);
        Check.due(1, "24: lamp 0 alone is burnt", many::burnt);
    }

    private static void above80() {
        for (int level : new int[] {0, 79, 80}) {
            PlotPatch plot = pars(1);
            cue(plot, 0, LINEAR, NONE, level);
            plot.go();
            plot.tick(50);
            Check.due(0, "24: " + level + " is not above 80", plot::burnt);
        }
        for (int level : new int[] {81, 82, 100}) {
            PlotPatch plot = pars(1);
            cue(plot, 0, LINEAR, NONE, level);
            plot.go();
            plot.tick(50);
            Check.due(1, "24: " + level + " is above 80", plot::burnt);
        }
    }

    private static void at30OrMore() {
        PlotPatch plot = pars(10);
        plot.cue(0, LINEAR, NONE);
        for (int lamp = 0; lamp < 10; lamp++) {
            plot.name(0, lamp, 81);
        }
        plot.go();
        plot.tick(29);
        Check.due(0, "24: 29", plot::burnt);
        plot.tick(1);
        Check.due(0x3FF, "24: 30", plot::burnt);
        plot.tick(1);
        Check.due(0x3FF, "24: 31", plot::burnt);
        plot.colour(0, 0);
        plot.colour(9, 20);
        Check.due(0x1FE, "24: two new ones", plot::burnt);
        plot.tick(29);
        Check.due(0x1FE, "24: 29 of the new ones", plot::burnt);
        plot.tick(1);
        Check.due(0x3FF, "24: 30 of the new ones", plot::burnt);
    }

    /** "The level of a lamp is its wanted level if it hangs and lives, otherwise 0." */
    private static void burnsIfItHangsAndLives() {
        PlotPatch plot = pars(4);
        plot.cue(0, LINEAR, NONE);
        for (int lamp = 0; lamp < 4; lamp++) {
            plot.name(0, lamp, 100);
        }
        plot.bulb(1);
        plot.down(2);
        plot.bulb(3);
        plot.down(3);
        plot.go();
        plot.tick(30);
        int[] levels = {100, 0, 0, 0};
        for (int lamp = 0; lamp < 4; lamp++) {
            int n = lamp;
            Check.due(levels[n], "18: lamp " + n, () -> plot.level(n));
            wants("lamp " + n, plot, n, 100);
        }
        Check.due(1, "24: the one that hangs and lives", plot::burnt);
    }

    /** "for each lamp on it its watts times its level, divided by 100, rounded down". */
    private static void loadRoundsEachLamp() {
        PlotPatch plot = new PlotPatch();
        plot.bar(0, 100, 500);
        plot.cue(0, LINEAR, NONE);
        for (int lamp = 0; lamp < 4; lamp++) {
            plot.lamp(PlotPatch.PROFILE, 0);
            plot.hang(lamp, 0, 10 * lamp);
            plot.name(0, lamp, 1);
            plot.plug(lamp, 3);
        }
        plot.go();
        Check.due(28, "12: 7.5 and 7.5 and 7.5 and 7.5", () -> plot.load(3));
        Check.due(0, "12: nothing on the circuit 0", () -> plot.load(0));
    }

    /** "What has begun goes on as it does": the dead one's fade, and the other one's. */
    private static void standInOfWhatHasBegun() {
        PlotPatch plot = pars(2);
        plot.cue(10, LINEAR, 5);
        plot.cue(10, LINEAR, NONE);
        plot.name(0, 0, 100);
        plot.name(0, 1, 50);
        plot.name(1, 0, 0);
        plot.go();
        plot.tick(2);
        plot.bulb(0);
        Check.due(2, "22: in both cues", () -> plot.standIn(0, 1));
        plot.tick(2);
        wants("the dead one's goes on", plot, 0, 40);
        wants("the other one's goes on, to 50 still", plot, 1, 20);
        ticks("the second one begins", plot, 1, 1);
        plot.tick(2);
        wants("it names none for the dead one", plot, 0, 70);
        wants("from 25 to 0, for the other one", plot, 1, 20);
    }
}
