/**
 * Each exception of each call: that it is the one that the document lists first, and that the call
 * changes nothing.
 */
public final class RefusalsTest {
    private static final Class<?> INDEX = IndexOutOfBoundsException.class;
    private static final Class<?> ARGUMENT = IllegalArgumentException.class;
    private static final Class<?> STATE = IllegalStateException.class;
    private static final int NONE = PlotPatch.NONE;
    private static final int[] NO_LAMPS = {-1, 5, 10, Integer.MAX_VALUE};

    public static void main(String[] args) {
        twinsSeeWhatChanges();
        twinsSeeWhatIsHidden();
        bars();
        lamps();
        hangWithout();
        hangTooNear();
        hangTooHeavy();
        downOnBarWhere();
        addresses();
        power();
        cues();
        names();
        goAndTick();
        levels();
        standIns();
        colours();
        inTheOtherHouse();
        Check.finish("RefusalsTest");
    }

    private static void changed(String what, Twins.Build build, Twins.Ask call) {
        Check.due(true, what + " is seen", () -> Twins.seen(build, call));
    }

    /** Twins that see nothing would let every refused call pass: each call that may change shows. */
    private static void twinsSeeWhatChanges() {
        Twins.Build some = Stages::some;
        changed("2: bar", some, p -> p.bar(0, 10, 10));
        changed("2: bar of the other house", some, p -> p.bar(1, 10, 10));
        changed("3: lamp", some, p -> p.lamp(0, 0));
        changed("4: hang", some, p -> p.hang(4, 0, 0));
        changed("4: hang elsewhere", some, p -> p.hang(0, 0, 11));
        changed("5: down", some, p -> p.down(0));
        changed("8: tour", some, PlotPatch::tour);
        changed("9: patch", some, p -> p.patch(4, 47));
        changed("11: plug", some, p -> p.plug(4, 3));
        changed("13: cue", some, p -> p.cue(0, 0, 0));
        changed("14: name", some, p -> p.name(3, 4, 1));
        changed("15: go", some, PlotPatch::go);
        changed("16: tick", some, p -> p.tick(1));
        changed("17: rewind", some, PlotPatch::rewind);
        changed("21: bulb", some, p -> p.bulb(4));
        changed("22: standIn", some, p -> p.standIn(2, 4));
        changed("23: colour", some, p -> p.colour(4, 8));
        Check.due(false, "what changes nothing is not seen", () -> Twins.seen(some, p -> p.gap(1)));
    }

    /** What no call shows at once: burning, follows, a level that is named already. */
    private static void twinsSeeWhatIsHidden() {
        Twins.Build some = Stages::some;
        changed("23: the same colour anew", some, p -> p.colour(0, 3));
        changed("17: go again", p -> {
            some.on(p);
            p.rewind();
            p.go();
            p.tick(1);
        }, p -> {
            p.rewind();
            return p.go();
        });
        changed("9: an address that is a double", p -> {
            some.on(p);
            p.patch(4, 50);
        }, p -> p.patch(4, 49));
        changed("14: a level of a cue that has begun", some, p -> p.name(0, 0, 89));
    }

    private static void bars() {
        Twins.Build some = Stages::some;
        Twins.refused(INDEX, "2: no such house", some, p -> p.bar(2, 10, 10));
        Twins.refused(INDEX, "2: no such house, no such length", some, p -> p.bar(2, 101, 10));
        Twins.refused(INDEX, "2: no such house, no such limit", some, p -> p.bar(NONE, 10, 0));
        Twins.refused(INDEX, "2: no such house, all are full", Stages::full, p -> p.bar(2, 10, 10));
        Twins.refused(ARGUMENT, "2: length", some, p -> p.bar(1, 101, 10));
        Twins.refused(ARGUMENT, "2: limit", some, p -> p.bar(1, 10, 501));
        Twins.refused(ARGUMENT, "2: length of a fifth bar", Stages::full, p -> p.bar(0, -1, 10));
        Twins.refused(ARGUMENT, "2: limit of a fifth bar", Stages::full, p -> p.bar(1, 10, 0));
        Twins.refused(STATE, "2: a fifth bar", Stages::full, p -> p.bar(0, 10, 10));
    }

    private static void lamps() {
        Twins.Build some = Stages::some;
        Twins.refused(ARGUMENT, "3: kind", some, p -> p.lamp(4, 0));
        Twins.refused(ARGUMENT, "3: colour", some, p -> p.lamp(0, 21));
        Twins.refused(ARGUMENT, "3: kind of an eleventh", Stages::full, p -> p.lamp(NONE, 0));
        Twins.refused(ARGUMENT, "3: colour of an eleventh", Stages::full, p -> p.lamp(0, NONE));
        Twins.refused(STATE, "3: an eleventh", Stages::full, p -> p.lamp(0, 0));
    }

    private static void hangWithout() {
        Twins.Build some = Stages::some;
        for (int lamp : NO_LAMPS) {
            Twins.refused(INDEX, "4: no lamp " + lamp, some, p -> p.hang(lamp, 0, 0));
            Twins.refused(INDEX, "4: no lamp " + lamp + ", too near", some, p -> p.hang(lamp, 0, 11));
        }
        Twins.refused(INDEX, "4: no bar", some, p -> p.hang(0, 2, 0));
        Twins.refused(INDEX, "4: no bar NONE", some, p -> p.hang(0, NONE, 0));
        Twins.refused(INDEX, "4: no place", some, p -> p.hang(0, 0, 41));
        Twins.refused(INDEX, "4: no place NONE", some, p -> p.hang(0, 0, NONE));
        Twins.refused(INDEX, "4: no place, and too heavy", some, p -> p.hang(3, 1, 10));
        Twins.refused(INDEX, "4: no place, and too near", some, p -> p.hang(4, 1, -1));
        Twins.refused(INDEX, "4: no place of the bar, one of another", some, p -> p.hang(4, 1, 40));
    }

    private static void hangTooNear() {
        Twins.Build some = Stages::some;
        for (int place = 8; place <= 12; place++) {
            int near = place;
            Twins.refused(STATE, "4: lamp 4 too near to lamp 0", some, p -> p.hang(4, 0, near));
            Twins.refused(STATE, "4: lamp 1 too near to lamp 0", some, p -> p.hang(1, 0, near));
        }
        Twins.refused(STATE, "4: lamp 2 too near, from another bar", some, p -> p.hang(2, 0, 32));
        Twins.refused(STATE, "4: too near to a dead lamp", some, p -> p.hang(4, 1, 2));
    }

    private static void hangTooHeavy() {
        Twins.refused(STATE, "4: 12 and 25 of 30", Stages::some, p -> p.hang(3, 1, 9));
        Twins.refused(STATE, "4: 46 and 4 of 46", Stages::full, p -> p.hang(0, 1, 10));
        Twins.refused(STATE, "4: 13 and 4 of 13", Stages::full, p -> p.hang(0, 2, 4));
        Twins.refused(STATE, "4: 25 of 24", p -> {
            Stages.some(p);
            p.bar(0, 100, 24);
        }, p -> p.hang(3, 2, 50));
    }

    private static void downOnBarWhere() {
        Twins.Build some = Stages::some;
        for (int lamp : NO_LAMPS) {
            Twins.refused(INDEX, "5: no lamp " + lamp, some, p -> p.down(lamp));
            Twins.refused(INDEX, "7: no lamp " + lamp, some, p -> p.where(lamp));
        }
        Twins.refused(INDEX, "6: no bar", some, p -> p.onBar(2, 0));
        Twins.refused(INDEX, "6: no rank", some, p -> p.onBar(0, 3));
        Twins.refused(INDEX, "6: no rank NONE", some, p -> p.onBar(0, NONE));
    }

    private static void addresses() {
        Twins.Build some = Stages::some;
        for (int lamp : NO_LAMPS) {
            Twins.refused(INDEX, "9: no lamp " + lamp, some, p -> p.patch(lamp, 0));
            Twins.refused(INDEX, "9: no lamp " + lamp + ", no address", some, p -> p.patch(lamp, 100));
            Twins.refused(INDEX, "9: no lamp " + lamp + ", none", some, p -> p.patch(lamp, NONE));
        }
        Twins.refused(ARGUMENT, "9: first 100", some, p -> p.patch(0, 100));
        Twins.refused(ARGUMENT, "9: first -2", some, p -> p.patch(0, -2));
        Twins.refused(ARGUMENT, "10: many 0", some, p -> p.gap(0));
        Twins.refused(ARGUMENT, "10: many 101", some, p -> p.gap(101));
    }

    private static void power() {
        Twins.Build some = Stages::some;
        for (int lamp : NO_LAMPS) {
            Twins.refused(INDEX, "11: no lamp " + lamp, some, p -> p.plug(lamp, 0));
            Twins.refused(INDEX, "11: no lamp " + lamp + ", none", some, p -> p.plug(lamp, NONE));
        }
        Twins.refused(INDEX, "11: circuit 4", some, p -> p.plug(0, 4));
        Twins.refused(INDEX, "11: circuit -2", some, p -> p.plug(0, -2));
        Twins.refused(INDEX, "12: circuit 4", some, p -> p.load(4));
        Twins.refused(INDEX, "12: circuit NONE", some, p -> p.load(NONE));
    }

    private static void cues() {
        Twins.Build some = Stages::some;
        Twins.refused(ARGUMENT, "13: fade", some, p -> p.cue(51, 0, NONE));
        Twins.refused(ARGUMENT, "13: curve", some, p -> p.cue(0, 3, NONE));
        Twins.refused(ARGUMENT, "13: follow", some, p -> p.cue(0, 0, 51));
        Twins.refused(ARGUMENT, "13: fade of a ninth", Stages::full, p -> p.cue(NONE, 0, NONE));
        Twins.refused(ARGUMENT, "13: curve of a ninth", Stages::full, p -> p.cue(0, NONE, NONE));
        Twins.refused(ARGUMENT, "13: follow of a ninth", Stages::full, p -> p.cue(0, 0, -2));
        Twins.refused(STATE, "13: a ninth", Stages::full, p -> p.cue(0, 0, NONE));
    }

    private static void names() {
        Twins.Build some = Stages::some;
        for (int lamp : NO_LAMPS) {
            Twins.refused(INDEX, "14: no lamp " + lamp, some, p -> p.name(0, lamp, 0));
            Twins.refused(INDEX, "14: no lamp " + lamp + ", no level", some, p -> p.name(0, lamp, 101));
            Twins.refused(INDEX, "14: no lamp " + lamp + ", no cue", some, p -> p.name(4, lamp, 0));
        }
        for (int cue : new int[] {NONE, 4, 8}) {
            Twins.refused(INDEX, "14: no cue " + cue, some, p -> p.name(cue, 0, 0));
            Twins.refused(INDEX, "14: no cue " + cue + ", no level", some, p -> p.name(cue, 0, -2));
            Twins.refused(INDEX, "14: no cue " + cue + ", none", some, p -> p.name(cue, 0, NONE));
        }
        Twins.refused(ARGUMENT, "14: level 101", some, p -> p.name(0, 0, 101));
        Twins.refused(ARGUMENT, "14: level -2", some, p -> p.name(0, 0, -2));
    }

    private static void goAndTick() {
        Twins.refused(STATE, "15: no next cue", Stages::full, PlotPatch::go);
        Twins.refused(STATE, "15: no next cue, one that follows had none", p -> {
            p.cue(3, 0, 1);
            p.lamp(0, 0);
            p.name(0, 0, 100);
            p.go();
            p.tick(2);
        }, PlotPatch::go);
        for (int ticks : new int[] {NONE, 0, 51, Integer.MIN_VALUE, Integer.MAX_VALUE}) {
            Twins.refused(ARGUMENT, "16: ticks " + ticks, Stages::some, p -> p.tick(ticks));
            Twins.refused(ARGUMENT, "16: ticks " + ticks, Stages::full, p -> p.tick(ticks));
        }
    }

    private static void levels() {
        Twins.Build some = Stages::some;
        for (int lamp : NO_LAMPS) {
            Twins.refused(INDEX, "18: no lamp " + lamp, some, p -> p.level(lamp));
            Twins.refused(INDEX, "19: no lamp " + lamp, some, p -> p.wanted(lamp));
            Twins.refused(INDEX, "20: no lamp " + lamp, some, p -> p.wantedByCues(lamp));
            Twins.refused(INDEX, "21: no lamp " + lamp, some, p -> p.bulb(lamp));
        }
    }

    private static void standIns() {
        Twins.Build some = Stages::some;
        for (int lamp : NO_LAMPS) {
            Twins.refused(INDEX, "22: no dead " + lamp, some, p -> p.standIn(lamp, 0));
            Twins.refused(INDEX, "22: no other " + lamp, some, p -> p.standIn(2, lamp));
            Twins.refused(INDEX, "22: no lamp " + lamp + ", both the same", some, p -> p.standIn(lamp, lamp));
            Twins.refused(INDEX, "22: no other " + lamp + ", the one lives", some, p -> p.standIn(0, lamp));
            Twins.refused(INDEX, "22: no one " + lamp + ", the other is dead", some, p -> p.standIn(lamp, 2));
        }
        Twins.refused(ARGUMENT, "22: the same, dead", some, p -> p.standIn(2, 2));
        Twins.refused(ARGUMENT, "22: the same, living", some, p -> p.standIn(0, 0));
        Twins.refused(STATE, "22: the one lives", some, p -> p.standIn(0, 1));
        Twins.refused(STATE, "22: the one lives, the other is dead", some, p -> p.standIn(0, 2));
        Twins.refused(STATE, "22: both are dead", p -> {
            Stages.some(p);
            p.bulb(0);
        }, p -> p.standIn(2, 0));
        Twins.refused(STATE, "22: the one lives again", p -> {
            Stages.some(p);
            p.bulb(2);
        }, p -> p.standIn(2, 0));
    }

    private static void colours() {
        Twins.Build some = Stages::some;
        for (int lamp : NO_LAMPS) {
            Twins.refused(INDEX, "23: no lamp " + lamp, some, p -> p.colour(lamp, 0));
            Twins.refused(INDEX, "23: no lamp " + lamp + ", no colour", some, p -> p.colour(lamp, 21));
        }
        Twins.refused(ARGUMENT, "23: colour 21", some, p -> p.colour(0, 21));
        Twins.refused(ARGUMENT, "23: colour NONE", some, p -> p.colour(0, NONE));
        Twins.refused(ARGUMENT, "23: colour 21 for a burnt one", p -> {
            Stages.some(p);
            p.tick(50);
        }, p -> p.colour(0, 21));
    }

    /** What is refused in the house 0 is refused in the house 1 as well, by the bars there. */
    private static void inTheOtherHouse() {
        Twins.Build toured = p -> {
            Stages.some(p);
            p.tour();
        };
        Twins.refused(INDEX, "4: no bar in the house 1", toured, p -> p.hang(4, 3, 0));
        Twins.refused(INDEX, "4: no place in the house 1", toured, p -> p.hang(4, 0, 31));
        Twins.refused(STATE, "4: too near in the house 1", toured, p -> p.hang(4, 0, 28));
        Twins.refused(STATE, "4: too heavy in the house 1", toured, p -> p.hang(1, 1, 9));
        Twins.refused(INDEX, "6: no rank in the house 1", toured, p -> p.onBar(2, 0));
    }
}
