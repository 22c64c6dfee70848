/**
 * The ranges of the parameters: just below the lowest, the lowest, the highest, just above the
 * highest, and NONE where it stands for "none" and where it does not.
 */
public final class RangesTest {
    private static final Class<?> INDEX = IndexOutOfBoundsException.class;
    private static final Class<?> ARGUMENT = IllegalArgumentException.class;
    private static final int NONE = PlotPatch.NONE;

    private interface Call {
        Object of(PlotPatch plot, int value);
    }

    private static final RangesTest SOME = new RangesTest(Stages::some);
    private static final RangesTest FULL = new RangesTest(Stages::full);

    private final Twins.Build build;

    private RangesTest(Twins.Build build) {
        this.build = build;
    }

    public static void main(String[] args) {
        barRanges();
        lampRanges();
        hangRanges();
        barNumbers();
        rankRanges();
        patchRanges();
        gapRange();
        circuitRanges();
        cueRanges();
        nameRanges();
        tickRange();
        lampNumbersOfLevels();
        standInNumbers();
        colourRange();
        numbersWhenFull();
        lampNumbersOfLevelsWhenFull();
        standInNumbersWhenFull();
        Check.finish("RangesTest");
    }

    /** The same plots, after one more thing. */
    private RangesTest after(Twins.Build more) {
        return new RangesTest(plot -> {
            build.on(plot);
            more.on(plot);
        });
    }

    /** The lowest and the highest are answered as due; what lies outside is refused. */
    private void ends(Class<?> kind, String what, Call call,
            int lowest, Object dueLowest, int highest, Object dueHighest) {
        accepted(what, call, lowest, dueLowest);
        accepted(what, call, highest, dueHighest);
        refused(kind, what, call, lowest - 1);
        refused(kind, what, call, highest + 1);
        refused(kind, what, call, Integer.MIN_VALUE);
        refused(kind, what, call, Integer.MAX_VALUE);
        if (NONE < lowest - 1) {
            refused(kind, what + " is not NONE", call, NONE);
        }
    }

    private void accepted(String what, Call call, int value, Object due) {
        PlotPatch plot = new PlotPatch();
        build.on(plot);
        Check.due(due, what + " " + value, () -> call.of(plot, value));
    }

    private void refused(Class<?> kind, String what, Call call, int value) {
        Twins.refused(kind, what + " " + value, build, plot -> call.of(plot, value));
    }

    private static void barRanges() {
        SOME.ends(INDEX, "2: house", (p, v) -> p.bar(v, 10, 10), 0, 2, 1, 3);
        SOME.ends(ARGUMENT, "2: length", (p, v) -> p.bar(0, v, 10), 0, 2, 100, 2);
        SOME.ends(ARGUMENT, "2: limit", (p, v) -> p.bar(0, 10, v), 1, 2, 500, 2);
    }

    private static void lampRanges() {
        SOME.ends(ARGUMENT, "3: kind", (p, v) -> p.lamp(v, 0), PlotPatch.PAR, 5, PlotPatch.MOVER, 5);
        SOME.ends(ARGUMENT, "3: colour", (p, v) -> p.lamp(0, v), 0, 5, 20, 5);
    }

    private static void hangRanges() {
        SOME.ends(INDEX, "4: lamp", (p, v) -> p.hang(v, 1, 9), 0, 16, 4, 16);
        SOME.ends(INDEX, "4: bar", (p, v) -> p.hang(4, v, 5), 0, 42, 1, 16);
        SOME.ends(INDEX, "4: place", (p, v) -> p.hang(4, 0, v), 0, 42, 40, 42);
        SOME.after(p -> p.bar(0, 0, 4)).ends(INDEX, "4: place of a bar of length 0",
                (p, v) -> p.hang(4, 2, v), 0, 4, 0, 4);
        SOME.after(p -> p.bar(0, 100, 4)).ends(INDEX, "4: place of a bar of length 100",
                (p, v) -> p.hang(4, 2, v), 0, 4, 100, 4);
    }

    /** The house 1 has three bars, the house 0 only two: the house that one is in counts. */
    private static void barNumbers() {
        SOME.ends(INDEX, "6: bar of the house 0", (p, v) -> p.onBar(v, 0), 0, 0, 1, 2);
        RangesTest toured = SOME.after(p -> {
            p.tour();
            p.down(0);
        });
        toured.ends(INDEX, "4: bar of the house 1", (p, v) -> p.hang(4, v, 5), 0, 38, 2, 4);
        toured.after(p -> p.hang(4, 2, 5)).ends(INDEX, "6: bar of the house 1",
                (p, v) -> p.onBar(v, 0), 0, 3, 2, 4);
    }

    private static void rankRanges() {
        SOME.ends(INDEX, "6: rank of three", (p, v) -> p.onBar(0, v), 0, 0, 2, 1);
        SOME.ends(INDEX, "6: rank of one", (p, v) -> p.onBar(1, v), 0, 2, 0, 2);
    }

    private static void patchRanges() {
        SOME.ends(INDEX, "9: lamp", (p, v) -> p.patch(v, 60), 0, 1, 4, 1);
        SOME.ends(ARGUMENT, "9: first of a PAR", (p, v) -> p.patch(4, v), NONE, 1, 99, 2);
        SOME.ends(ARGUMENT, "9: first of a PROFILE", (p, v) -> p.patch(1, v), NONE, 0, 99, 1);
        SOME.ends(ARGUMENT, "9: first of a WASH", (p, v) -> p.patch(2, v), NONE, 0, 96, 4);
        SOME.ends(ARGUMENT, "9: first of a MOVER", (p, v) -> p.patch(3, v), NONE, 1, 88, 1);
        SOME.accepted("9: first of a PAR", (p, v) -> p.patch(4, v), 0, 2);
        SOME.accepted("9: first of a PROFILE", (p, v) -> p.patch(1, v), 0, 1);
        SOME.accepted("9: first of a WASH", (p, v) -> p.patch(2, v), 0, 1);
        SOME.accepted("9: first of a MOVER", (p, v) -> p.patch(3, v), 0, 2);
    }

    private static void gapRange() {
        SOME.ends(ARGUMENT, "10: many", (p, v) -> p.gap(v), 1, 1, 100, NONE);
    }

    private static void circuitRanges() {
        SOME.ends(INDEX, "11: lamp", (p, v) -> p.plug(v, 1), 0, 0, 4, 2);
        SOME.ends(INDEX, "11: circuit", (p, v) -> p.plug(0, v), NONE, 0, 3, 0);
        SOME.accepted("11: circuit", (p, v) -> p.plug(1, v), 0, 3);
        SOME.ends(INDEX, "12: circuit", (p, v) -> p.load(v), 0, 1132, 3, 442);
    }

    private static void cueRanges() {
        SOME.ends(ARGUMENT, "13: fade", (p, v) -> p.cue(v, 0, NONE), 0, 4, 50, 4);
        SOME.ends(ARGUMENT, "13: curve", (p, v) -> p.cue(0, v, NONE),
                PlotPatch.LINEAR, 4, PlotPatch.SNAP, 4);
        SOME.ends(ARGUMENT, "13: follow", (p, v) -> p.cue(0, 0, v), NONE, 4, 50, 4);
        SOME.accepted("13: follow", (p, v) -> p.cue(0, 0, v), 0, 4);
    }

    private static void nameRanges() {
        SOME.ends(INDEX, "14: cue", (p, v) -> p.name(v, 0, 50), 0, 90, 3, NONE);
        SOME.ends(INDEX, "14: lamp", (p, v) -> p.name(0, v, 50), 0, 90, 4, NONE);
        SOME.ends(ARGUMENT, "14: level", (p, v) -> p.name(0, 0, v), NONE, 90, 100, 90);
        SOME.accepted("14: level", (p, v) -> p.name(0, 0, v), 0, 90);
    }

    private static void tickRange() {
        SOME.ends(ARGUMENT, "16: ticks", (p, v) -> p.tick(v), 1, 0, 50, 0);
    }

    private static void lampNumbersOfLevels() {
        SOME.ends(INDEX, "5: lamp", (p, v) -> p.down(v), 0, true, 4, false);
        SOME.ends(INDEX, "7: lamp", (p, v) -> p.where(v), 0, 10, 4, NONE);
        SOME.ends(INDEX, "18: lamp", (p, v) -> p.level(v), 0, 90, 4, 0);
        SOME.ends(INDEX, "19: lamp", (p, v) -> p.wanted(v), 0, 90, 4, 0);
        SOME.ends(INDEX, "20: lamp", (p, v) -> p.wantedByCues(v), 0, 90, 4, 0);
        SOME.ends(INDEX, "21: lamp", (p, v) -> p.bulb(v), 0, false, 4, false);
    }

    private static void standInNumbers() {
        SOME.ends(INDEX, "22: other", (p, v) -> p.standIn(2, v), 0, 2, 4, 2);
        RangesTest dead = SOME.after(p -> {
            p.bulb(0);
            p.bulb(4);
        });
        dead.ends(INDEX, "22: dead", (p, v) -> p.standIn(v, 1), 0, 2, 4, 1);
    }

    private static void colourRange() {
        SOME.ends(INDEX, "23: lamp", (p, v) -> p.colour(v, 5), 0, 3, 4, 7);
        SOME.ends(ARGUMENT, "23: colour", (p, v) -> p.colour(0, v), 0, 3, 20, 3);
    }

    /** The highest numbers that there can be: bar 3, lamp 9, cue 7. */
    private static void numbersWhenFull() {
        FULL.ends(INDEX, "4: bar of four", (p, v) -> p.hang(0, v, 0), 0, 54, 3, 4);
        FULL.after(p -> p.hang(0, 3, 0)).ends(INDEX, "6: bar of four", (p, v) -> p.onBar(v, 0), 0, 1, 3, 0);
        FULL.ends(INDEX, "4: lamp of ten", (p, v) -> p.hang(v, 3, 0), 0, 4, 9, 9);
        FULL.ends(INDEX, "5: lamp of ten", (p, v) -> p.down(v), 0, true, 9, true);
        FULL.ends(INDEX, "7: lamp of ten", (p, v) -> p.where(v), 0, 0, 9, 2009);
        FULL.ends(INDEX, "9: lamp of ten", (p, v) -> p.patch(v, 60), 0, 0, 9, 1);
        FULL.ends(INDEX, "11: lamp of ten", (p, v) -> p.plug(v, NONE), 0, 0, 9, 1);
        FULL.ends(INDEX, "14: cue of eight", (p, v) -> p.name(v, 2, 0), 0, NONE, 7, 84);
        FULL.ends(INDEX, "14: lamp of ten", (p, v) -> p.name(4, v, 0), 0, NONE, 9, 84);
        FULL.ends(INDEX, "23: lamp of ten", (p, v) -> p.colour(v, 20), 0, 0, 9, 18);
    }

    private static void lampNumbersOfLevelsWhenFull() {
        // After that lamp 0 is at what cue 5 names, and lamp 9 at what cue 4 names.
        RangesTest lit = FULL.after(p -> p.tick(50));
        lit.ends(INDEX, "18: lamp of ten", (p, v) -> p.level(v), 0, 84, 9, 84);
        lit.ends(INDEX, "19: lamp of ten", (p, v) -> p.wanted(v), 0, 84, 9, 84);
        lit.ends(INDEX, "20: lamp of ten", (p, v) -> p.wantedByCues(v), 0, 84, 9, 84);
        FULL.ends(INDEX, "21: lamp of ten", (p, v) -> p.bulb(v), 0, false, 9, false);
    }

    private static void standInNumbersWhenFull() {
        RangesTest ends = FULL.after(p -> {
            p.bulb(0);
            p.bulb(9);
        });
        ends.ends(INDEX, "22: dead of ten", (p, v) -> p.standIn(v, 5), 0, 2, 9, 1);
        FULL.after(p -> p.bulb(5)).ends(INDEX, "22: other of ten", (p, v) -> p.standIn(5, v), 0, 3, 9, 3);
    }
}
