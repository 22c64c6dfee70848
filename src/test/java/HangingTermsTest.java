import java.lang.reflect.Field;
import java.util.Arrays;

/** The sentences of "Terms" on hanging and on going to the other house, one after the other. */
public final class HangingTermsTest {
    private static final Class<?> INDEX = IndexOutOfBoundsException.class;
    private static final Class<?> STATE = IllegalStateException.class;
    private static final int NONE = PlotPatch.NONE;

    public static void main(String[] args) throws ReflectiveOperationException {
        asAtFirst();
        fromZeroToItsLength();
        atLeast3Away();
        betweenTwo();
        allOtherLamps();
        onlyThoseThatHangThere();
        formerPlaceLeftAside();
        weighAtMostTheLimit();
        ownWeightCountsOnce();
        allLampsComeDown();
        allComeDownBeforeWeighing();
        byRisingNumbers();
        thoseThatHung();
        sameNumberIfThereIsOne();
        nearestToItsOwn();
        atWhichItCanHang();
        ofTwoTheLowerOne();
        ifThereIsNoneItHangsNoMore();
        backAgain();
        nothingElseTours();
        Check.finish("HangingTermsTest");
    }

    private static PlotPatch withLamps(int... kinds) {
        PlotPatch plot = new PlotPatch();
        for (int kind : kinds) {
            plot.lamp(kind, 0);
        }
        return plot;
    }

    private static PlotPatch pars(int many) {
        return withLamps(new int[many]);
    }

    /** The tour answers how many hang no more, and each lamp is where it is due then. */
    private static void tours(String what, PlotPatch plot, int lost, int... places) {
        Check.due(lost, "8: " + what, plot::tour);
        for (int lamp = 0; lamp < places.length; lamp++) {
            int n = lamp;
            Check.due(places[n], "8: " + what + ": lamp " + n, () -> plot.where(n));
        }
    }

    /** "it hangs on a bar or not, as at first, has a first address or none, ... and lives". */
    private static void asAtFirst() {
        for (int kind = 0; kind < 4; kind++) {
            PlotPatch plot = withLamps(kind);
            plot.bar(0, 10, 100);
            Check.due(NONE, "3: it does not hang at first", () -> plot.where(0));
            Check.due(0, "3: it has no address at first", () -> plot.gap(100));
            Check.due(NONE, "3: it is on no circuit at first", () -> plot.plug(0, NONE));
            Check.due(0, "3: it is wanted at 0 at first", () -> plot.wanted(0));
            Check.due(false, "3: it lives at first", () -> plot.bulb(0));
        }
    }

    private static void fromZeroToItsLength() {
        for (int length : new int[] {0, 1, 100}) {
            PlotPatch plot = pars(1);
            plot.bar(0, length, 100);
            Check.refused(INDEX, "4: place -1 of " + length, () -> plot.hang(0, 0, -1));
            Check.due(4, "4: place 0 of " + length, () -> plot.hang(0, 0, 0));
            Check.due(4, "4: the last place of " + length, () -> plot.hang(0, 0, length));
            Check.refused(INDEX, "4: past the last place of " + length, () -> plot.hang(0, 0, length + 1));
        }
    }

    private static void atLeast3Away() {
        for (int away = -4; away <= 4; away++) {
            int place = 50 + away;
            PlotPatch plot = pars(2);
            plot.bar(0, 100, 100);
            plot.hang(0, 0, 50);
            if (away <= -3 || away >= 3) {
                Check.due(8, "4: at least 3 away: " + away, () -> plot.hang(1, 0, place));
            } else {
                Check.refused(STATE, "4: at least 3 away: " + away, () -> plot.hang(1, 0, place));
            }
        }
    }

    private static void betweenTwo() {
        PlotPatch plot = pars(3);
        plot.bar(0, 11, 100);
        plot.hang(0, 0, 0);
        plot.hang(1, 0, 5);
        for (int place = 0; place <= 7; place++) {
            int p = place;
            Check.refused(STATE, "4: between two that are 5 apart", () -> plot.hang(2, 0, p));
        }
        plot.hang(1, 0, 6);
        for (int place : new int[] {0, 1, 2, 4, 5, 6, 7, 8}) {
            Check.refused(STATE, "4: between two that are 6 apart", () -> plot.hang(2, 0, place));
        }
        Check.due(12, "4: in the middle of two that are 6 apart", () -> plot.hang(2, 0, 3));
        Check.due(12, "4: above the upper one", () -> plot.hang(2, 0, 9));
    }

    /** "all other lamps that hang there": the lamp of the highest number too, on the last place. */
    private static void allOtherLamps() {
        PlotPatch plot = pars(10);
        plot.bar(0, 100, 500);
        for (int lamp = 1; lamp < 10; lamp++) {
            plot.hang(lamp, 0, 10 * lamp);
        }
        for (int lamp = 1; lamp < 10; lamp++) {
            int p = 10 * lamp;
            Check.refused(STATE, "4: too near to lamp " + p / 10, () -> plot.hang(0, 0, p - 2));
            Check.refused(STATE, "4: too near to lamp " + p / 10, () -> plot.hang(0, 0, p + 2));
        }
        Check.due(40, "4: near to none", () -> plot.hang(0, 0, 97));
    }

    private static void onlyThoseThatHangThere() {
        PlotPatch plot = pars(3);
        plot.bar(0, 10, 4);
        plot.bar(0, 10, 8);
        plot.hang(0, 0, 5);
        Check.due(4, "4: the lamp of another bar is not near", () -> plot.hang(1, 1, 5));
        plot.bulb(1);
        Check.refused(STATE, "4: a dead one hangs there still", () -> plot.hang(2, 1, 6));
        plot.down(1);
        Check.due(4, "4: one that came down is not near", () -> plot.hang(2, 1, 6));
        Check.due(8, "4: nor does it weigh: all there weigh 8", () -> plot.hang(1, 1, 3));
    }

    private static void formerPlaceLeftAside() {
        PlotPatch plot = pars(2);
        plot.bar(0, 10, 4);
        plot.bar(0, 10, 4);
        plot.hang(0, 0, 5);
        for (int place = 3; place <= 7; place++) {
            int p = place;
            Check.due(4, "4: near its own former place", () -> plot.hang(0, 0, p));
        }
        Check.due(4, "4: on another bar", () -> plot.hang(0, 1, 7));
        Check.due(1007, "4: wherever it hung, it hangs there then", () -> plot.where(0));
        Check.refused(INDEX, "4: and not on the other one", () -> plot.onBar(0, 0));
        Check.due(4, "4: which bears another one", () -> plot.hang(1, 0, 7));
    }

    private static void weighAtMostTheLimit() {
        int[] weights = {4, 9, 12, 25};
        for (int kind = 0; kind < 4; kind++) {
            int weight = weights[kind];
            PlotPatch plot = withLamps(kind, 0);
            plot.bar(0, 10, weight - 1);
            plot.bar(0, 10, weight);
            plot.bar(0, 10, weight + 3);
            plot.bar(0, 10, weight + 4);
            Check.refused(STATE, "4: above the limit by 1", () -> plot.hang(0, 0, 0));
            Check.due(weight, "4: just the limit", () -> plot.hang(0, 1, 0));
            plot.hang(1, 2, 10);
            Check.refused(STATE, "4: together above the limit by 1", () -> plot.hang(0, 2, 0));
            plot.hang(1, 3, 10);
            Check.due(weight + 4, "4: together just the limit", () -> plot.hang(0, 3, 0));
        }
    }

    private static void ownWeightCountsOnce() {
        PlotPatch plot = withLamps(3, 2);
        plot.bar(0, 10, 37);
        Check.due(25, "4: one", () -> plot.hang(0, 0, 0));
        Check.due(37, "4: both are the limit", () -> plot.hang(1, 0, 5));
        Check.due(37, "4: the one moves along", () -> plot.hang(0, 0, 2));
        Check.due(37, "4: the other one moves along", () -> plot.hang(1, 0, 10));
        Check.due(37, "4: it stays", () -> plot.hang(1, 0, 10));
    }

    /** "all lamps come down": lamp 1 is not in the way of lamp 0, which is taken before it. */
    private static void allLampsComeDown() {
        PlotPatch plot = pars(2);
        plot.bar(0, 20, 100);
        plot.bar(1, 11, 100);
        plot.hang(0, 0, 20);
        plot.hang(1, 0, 10);
        tours("lamp 1 came down before lamp 0 hangs", plot, 0, 11, 8);
    }

    private static void allComeDownBeforeWeighing() {
        PlotPatch plot = pars(2);
        plot.bar(0, 20, 100);
        plot.bar(1, 20, 4);
        plot.hang(0, 0, 20);
        plot.hang(1, 0, 10);
        tours("lamp 1 does not weigh before lamp 0 hangs", plot, 1, 20, NONE);
    }

    private static void byRisingNumbers() {
        PlotPatch plot = withLamps(0, 1, 2);
        plot.bar(0, 20, 100);
        plot.bar(1, 20, 13);
        plot.hang(2, 0, 0);
        plot.hang(1, 0, 10);
        plot.hang(0, 0, 20);
        tours("4 and 9 of 13, then 12 is too much", plot, 1, 20, 10, NONE);
        PlotPatch places = pars(3);
        places.bar(0, 20, 100);
        places.bar(1, 10, 100);
        places.hang(2, 0, 10);
        places.hang(1, 0, 14);
        places.hang(0, 0, 18);
        tours("each is pushed by those before it", places, 0, 10, 7, 4);
    }

    private static void thoseThatHung() {
        PlotPatch plot = pars(3);
        plot.bar(0, 20, 100);
        plot.bar(1, 20, 100);
        plot.hang(0, 0, 5);
        plot.hang(1, 0, 10);
        plot.down(1);
        tours("one hung, one came down before, one never hung", plot, 0, 5, NONE, NONE);
    }

    private static void sameNumberIfThereIsOne() {
        PlotPatch plot = pars(4);
        for (int bar = 0; bar < 4; bar++) {
            plot.bar(0, 50, 100);
            plot.hang(bar, bar, 10 + bar);
        }
        plot.bar(1, 60, 100);
        plot.bar(1, 70, 100);
        tours("two bars of four", plot, 2, 10, 1011, NONE, NONE);
        PlotPatch none = pars(2);
        none.bar(0, 50, 100);
        none.hang(0, 0, 0);
        none.hang(1, 0, 50);
        tours("no bar at all", none, 2, NONE, NONE);
    }

    private static void nearestToItsOwn() {
        PlotPatch plot = pars(1);
        plot.bar(0, 100, 100);
        plot.bar(1, 60, 100);
        for (int place : new int[] {0, 1, 59, 60}) {
            plot.hang(0, 0, place);
            tours("its own place " + place, plot, 0, place);
            tours("and back", plot, 0, place);
        }
        for (int place : new int[] {61, 62, 99, 100}) {
            plot.hang(0, 0, place);
            tours("the end is nearest to " + place, plot, 0, 60);
            tours("and stays there on the way back", plot, 0, 60);
        }
        PlotPatch zero = pars(1);
        zero.bar(0, 100, 100);
        zero.bar(1, 0, 100);
        zero.hang(0, 0, 100);
        tours("the only place is nearest", zero, 0, 0);
    }

    /** "at which it can hang": the nearest that is 3 away from those that hang already. */
    private static void atWhichItCanHang() {
        PlotPatch plot = pars(4);
        plot.bar(0, 100, 100);
        plot.bar(1, 50, 100);
        plot.hang(0, 0, 100);
        plot.hang(1, 0, 48);
        plot.hang(2, 0, 90);
        plot.hang(3, 0, 41);
        tours("47 for 48, 44 for 90, 41 for itself", plot, 0, 50, 47, 44, 41);
        PlotPatch last = pars(3);
        last.bar(0, 100, 100);
        last.bar(1, 6, 100);
        last.hang(0, 0, 9);
        last.hang(1, 0, 6);
        last.hang(2, 0, 3);
        tours("down to place 0", last, 0, 6, 3, 0);
        PlotPatch just = pars(3);
        just.bar(0, 100, 100);
        just.bar(1, 5, 100);
        just.hang(0, 0, 9);
        just.hang(1, 0, 6);
        just.hang(2, 0, 3);
        tours("no place 3 away below 2", just, 1, 5, 2, NONE);
    }

    /**
     * "of two the lower one": lamps of one bar are 3 apart in the house that they leave, and are
     * pushed down from the end only, so no run of calls comes to two places as near. Lamps that
     * are put onto one and the same place by hand do; this reaches into the program for that.
     */
    private static void ofTwoTheLowerOne() throws ReflectiveOperationException {
        if (Arrays.stream(PlotPatch.class.getDeclaredClasses())
                .noneMatch(inner -> inner.getSimpleName().equals("Rig"))) {
            System.out.println("not looked at, as there is no Rig: of two the lower one");
            return;
        }
        PlotPatch plot = pars(5);
        plot.bar(0, 100, 100);
        plot.bar(1, 100, 100);
        for (int lamp = 0; lamp < 5; lamp++) {
            plot.hang(lamp, 0, 10 * lamp);
        }
        Field rig = PlotPatch.class.getDeclaredField("rig");
        rig.setAccessible(true);
        Field places = rig.getType().getDeclaredField("places");
        places.setAccessible(true);
        Arrays.fill((int[]) places.get(rig.get(plot)), 50);
        tours("of two the lower one", plot, 0, 50, 47, 53, 44, 56);
        Arrays.fill((int[]) places.get(rig.get(plot)), 0);
        tours("of one the upper one, at the lower end", plot, 0, 0, 3, 6, 9, 12);
    }

    private static void ifThereIsNoneItHangsNoMore() {
        PlotPatch plot = withLamps(0, 0, 3, 1);
        plot.bar(0, 50, 100);
        plot.bar(0, 50, 100);
        plot.bar(0, 50, 100);
        plot.bar(1, 2, 100);
        plot.bar(1, 50, 24);
        plot.hang(0, 0, 50);
        plot.hang(1, 0, 0);
        plot.hang(2, 1, 20);
        plot.hang(3, 2, 20);
        tours("no place, too heavy, no bar", plot, 3, 2, NONE, NONE, NONE);
        Check.due(false, "5: it hangs no more", () -> plot.down(1));
        Check.refused(INDEX, "6: only one hangs there", () -> plot.onBar(0, 1));
        Check.due(4, "4: it can be hung anew", () -> plot.hang(1, 1, 20));
    }

    private static void backAgain() {
        PlotPatch plot = pars(4);
        plot.bar(0, 100, 8);
        plot.bar(0, 30, 4);
        plot.bar(1, 20, 100);
        plot.hang(0, 0, 90);
        plot.hang(1, 0, 70);
        plot.hang(2, 1, 30);
        tours("there", plot, 1, 20, 17, NONE, NONE);
        plot.hang(3, 0, 0);
        tours("back, by the places and limits of now", plot, 1, 20, 17, NONE, NONE);
        Check.due(4, "8: the first house's bars are as they were", () -> plot.hang(2, 1, 30));
        Check.due(8, "8: with their lengths", () -> plot.hang(0, 0, 100));
        Check.refused(STATE, "8: and their limits", () -> plot.hang(3, 0, 0));
        tours("there once more", plot, 1, 20, 17, NONE, NONE);
        tours("and back once more", plot, 0, 20, 17, NONE, NONE);
    }

    /** A tour is about hanging alone: what else was given to a lamp stays. */
    private static void nothingElseTours() {
        PlotPatch plot = new PlotPatch();
        Stages.some(plot);
        tours("all hang again", plot, 0, 10, 30, 1000, 20, NONE);
        Check.due(90, "18: its level", () -> plot.level(0));
        Check.due(59, "19: its fade", () -> plot.wanted(1));
        Check.due(1, "10: its addresses", () -> plot.gap(47));
        Check.due(NONE, "10: its addresses", () -> plot.gap(48));
        Check.due(3, "11: its circuit", () -> plot.plug(1, 3));
        Check.due(20, "23: its colour", () -> plot.colour(2, 20));
        Check.due(true, "21: it was dead", () -> plot.bulb(2));
        Check.due(90, "14: what is named for it", () -> plot.name(0, 0, 90));
        Check.due(2, "17: what has begun", plot::rewind);
    }
}
