import java.util.Random;

/** Promises 1 to 24: long runs of drawn calls, right and wrong ones, against the Model. */
public final class RandomRunsTest {
    private static final int RUNS = 20000;
    /** An object is good for so many calls, and no more are asked of it. */
    private static final int CALLS = 512;
    private static final int LOOKS = 45;
    private static final int[] ODD = {Integer.MIN_VALUE, -1001, -2, -1, 0, 1, 2, 3, 4, 7, 8, 9, 10, 20, 21,
        50, 51, 100, 101, 500, 501, Integer.MAX_VALUE};

    private final Random random;
    /** Of a thousand numbers, so many are drawn from anywhere. */
    private final int wild;
    /** After each step fewer than so many things are looked at. */
    private final int looks;
    private int calls = 0;
    private PlotPatch plot;
    private Model model;

    private RandomRunsTest(long seed) {
        random = new Random(seed);
        wild = random.nextInt(60);
        looks = 1 + random.nextInt(8);
        plot = new PlotPatch();
        model = new Model();
    }

    public static void main(String[] args) {
        for (int run = 0; run < RUNS; run++) {
            new RandomRunsTest(run).go("run " + run);
        }
        Check.finish("RandomRunsTest");
    }

    private void go(String run) {
        boolean rigged = random.nextInt(4) != 0;
        if (rigged) {
            rig(run);
        }
        while (calls + looks + LOOKS < CALLS) {
            step(run + " call " + calls, random.nextInt(23));
            for (int k = random.nextInt(looks); k > 0; k--) {
                look(run + " after call " + calls, random.nextInt(LOOKS));
            }
        }
        for (int what = 0; what < LOOKS; what++) {
            look(run + " at the end", what);
        }
    }

    /** Most runs begin with a plot that has something of all. */
    private void rig(String run) {
        for (int k = 0; k < 4; k++) {
            step(run, 0);
            step(run, 1);
            step(run, 2);
            step(run, 11);
        }
    }

    private int draw(int low, int high) {
        if (random.nextInt(1000) < wild) {
            return random.nextBoolean() ? ODD[random.nextInt(ODD.length)] : random.nextInt();
        }
        return low + random.nextInt(high - low + 1);
    }

    private int lamp() {
        return draw(0, random.nextInt(4) == 0 ? 10 : 5);
    }

    private void same(String what, Check.Call got, Check.Call want) {
        calls++;
        Check.due(Check.answer(want), what, got);
    }

    private void step(String run, int which) {
        if (which <= 6) {
            hangingStep(run, which);
        } else if (which <= 10) {
            patchStep(run, which);
        } else if (which <= 15) {
            cueStep(run, which);
        } else {
            levelStep(run, which);
        }
    }

    private void hangingStep(String run, int which) {
        int a = which == 0 ? draw(0, 1) : which == 1 ? draw(0, 3) : lamp();
        int b = which == 0 ? draw(0, 100) : which == 1 ? draw(0, 20) : draw(0, 3);
        int c = which == 0 ? draw(1, 60) : draw(0, random.nextBoolean() ? 20 : 100);
        String what = run + ": call " + which + " of " + a + ", " + b + ", " + c;
        switch (which) {
            case 0: same(what, () -> plot.bar(a, b, c), () -> model.bar(a, b, c)); break;
            case 1: same(what, () -> plot.lamp(a, b), () -> model.lamp(a, b)); break;
            case 2: case 3: same(what, () -> plot.hang(a, b, c), () -> model.hang(a, b, c)); break;
            case 4: same(what, () -> plot.down(a), () -> model.down(a)); break;
            case 5: same(what, () -> plot.onBar(b, a), () -> model.onBar(b, a)); break;
            default: same(what, () -> plot.tour(), () -> model.tour()); break;
        }
    }

    private void patchStep(String run, int which) {
        int a = lamp();
        int b = which == 7 ? draw(-1, 100) : which == 8 ? draw(1, 100) : draw(-1, 3);
        String what = run + ": call " + which + " of " + a + ", " + b;
        switch (which) {
            case 7: same(what, () -> plot.patch(a, b), () -> model.patch(a, b)); break;
            case 8: same(what, () -> plot.gap(b), () -> model.gap(b)); break;
            case 9: same(what, () -> plot.plug(a, b), () -> model.plug(a, b)); break;
            default: same(what, () -> plot.load(b), () -> model.load(b)); break;
        }
    }

    private void cueStep(String run, int which) {
        int a = which == 11 ? draw(0, random.nextBoolean() ? 5 : 50) : draw(0, 7);
        int b = which == 11 ? draw(0, 2) : lamp();
        int c = which == 11 ? draw(-1, random.nextBoolean() ? 3 : 50) : draw(-1, 100);
        int d = draw(1, random.nextBoolean() ? 4 : 50);
        String what = run + ": call " + which + " of " + a + ", " + b + ", " + c + " or " + d;
        switch (which) {
            case 11: same(what, () -> plot.cue(a, b, c), () -> model.cue(a, b, c)); break;
            case 12: same(what, () -> plot.name(a, b, c), () -> model.name(a, b, c)); break;
            case 13: same(what, () -> plot.go(), () -> model.go()); break;
            case 14: same(what, () -> plot.tick(d), () -> model.tick(d)); break;
            default:
                if (random.nextInt(3) == 0) {
                    same(what, () -> plot.rewind(), () -> model.rewind());
                }
                break;
        }
    }

    private void levelStep(String run, int which) {
        int a = lamp();
        int b = lamp();
        int c = draw(0, 20);
        String what = run + ": call " + which + " of " + a + ", " + b + " or " + c;
        switch (which) {
            case 16: same(what, () -> plot.bulb(a), () -> model.bulb(a)); break;
            case 17: same(what, () -> plot.standIn(a, b), () -> model.standIn(a, b)); break;
            case 18: same(what, () -> plot.colour(a, c), () -> model.colour(a, c)); break;
            case 19: same(what, () -> plot.level(a), () -> model.level(a)); break;
            case 20: same(what, () -> plot.wanted(a), () -> model.wanted(a)); break;
            case 21: same(what, () -> plot.wantedByCues(a), () -> model.wanted(a)); break;
            default: same(what, () -> plot.where(a), () -> model.where(a)); break;
        }
    }

    /** One of the things that calls show that change nothing, after calls that threw too. */
    private void look(String run, int what) {
        int n = what / 4;
        if (what < 40) {
            switch (what % 4) {
                case 0: same(run + ": where(" + n + ")", () -> plot.where(n), () -> model.where(n)); break;
                case 1: same(run + ": level(" + n + ")", () -> plot.level(n), () -> model.level(n)); break;
                case 2: same(run + ": wanted(" + n + ")", () -> plot.wanted(n), () -> model.wanted(n)); break;
                default: same(run + ": wantedByCues(" + n + ")", () -> plot.wantedByCues(n), () -> model.wanted(n));
            }
        } else if (what < 44) {
            same(run + ": load(" + (what - 40) + ")", () -> plot.load(what - 40), () -> model.load(what - 40));
        } else {
            same(run + ": burnt()", () -> plot.burnt(), () -> model.burnt());
        }
    }
}
