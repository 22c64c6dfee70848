import java.util.Objects;

/** What the tests share: counts the answers that are not as due, and prints them. */
final class Check {
    private static int made = 0;
    private static int wrong = 0;

    interface Call {
        Object run();
    }

    private Check() {
    }

    /** The call answers what is due. */
    static void due(Object want, String what, Call call) {
        Object got = answer(call);
        made++;
        if (!Objects.equals(got, want)) {
            wrong++;
            System.out.println(what + " answered " + got + ", due is " + want);
        }
    }

    /** The call throws just this exception, and the plot answers the same before and after. */
    static void refused(Class<?> kind, PlotPatch plot, String what, Call call) {
        String before = looks(plot);
        due("throws " + kind.getName(), what, call);
        due(before, what + " (what it has changed)", () -> looks(plot));
    }

    static Object answer(Call call) {
        try {
            return call.run();
        } catch (RuntimeException e) {
            return "throws " + e.getClass().getName();
        }
    }

    /** All that can be seen of a plot by calls that change nothing. */
    static String looks(PlotPatch plot) {
        StringBuilder text = new StringBuilder();
        for (int lamp = 0; lamp < 10; lamp++) {
            int n = lamp;
            text.append(answer(() -> plot.where(n))).append(' ');
            text.append(answer(() -> plot.level(n))).append(' ');
            text.append(answer(() -> plot.wanted(n))).append(' ');
            text.append(answer(() -> plot.wantedByCues(n))).append('\n');
        }
        for (int bar = 0; bar < 4; bar++) {
            for (int rank = 0; rank < 10; rank++) {
                int b = bar;
                int r = rank;
                text.append(answer(() -> plot.onBar(b, r))).append(' ');
            }
            int circuit = bar;
            text.append(plot.load(circuit)).append('\n');
        }
        for (int many = 1; many <= 100; many++) {
            text.append(plot.gap(many)).append(' ');
        }
        return text.append(plot.burnt()).toString();
    }

    static void finish(String test) {
        System.out.println(test + ": " + made + " checks, " + wrong + " wrong");
        if (wrong != 0 || made == 0) {
            System.exit(1);
        }
    }
}
