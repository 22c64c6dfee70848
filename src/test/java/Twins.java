import java.util.ArrayList;
import java.util.List;

/**
 * Two plots made by the same calls, of which one is asked for what it must refuse. From then on
 * both must answer the same, whatever one looks at. Each probe takes twins of its own, as an
 * object is good for 512 calls only.
 */
final class Twins {
    interface Build {
        void on(PlotPatch plot);
    }

    interface Ask {
        Object of(PlotPatch plot);
    }

    private static final List<Ask> PROBES = probes();

    /** What a call may throw: nothing else ever reaches its caller. */
    private static final List<String> DUE = List.of("throws java.lang.IndexOutOfBoundsException",
            "throws java.lang.IllegalArgumentException", "throws java.lang.IllegalStateException");

    private Twins() {
    }

    /** The call throws just this exception, and changes nothing. */
    static void refused(Class<?> kind, String what, Build build, Ask call) {
        for (Ask probe : PROBES) {
            PlotPatch asked = built(build);
            Check.refused(kind, what, () -> call.of(asked));
            Object spared = probe.of(built(build));
            Check.due(true, what + " changes nothing", () -> probe.of(asked).equals(spared));
        }
    }

    /** The other way round, for the test of the probes: whether any of them sees the call. */
    static boolean seen(Build build, Ask call) {
        for (Ask probe : PROBES) {
            PlotPatch asked = built(build);
            call.of(asked);
            if (!probe.of(asked).equals(probe.of(built(build)))) {
                return true;
            }
        }
        return false;
    }

    private static PlotPatch built(Build build) {
        PlotPatch plot = new PlotPatch();
        build.on(plot);
        return plot;
    }

    /** What a plot has answered to one call after another. */
    private static final class Log {
        private final PlotPatch plot;
        private final StringBuilder text = new StringBuilder();

        Log(PlotPatch plot) {
            this.plot = plot;
        }

        Object ask(Ask call) {
            Object answer = Check.answer(() -> call.of(plot));
            text.append(answer).append(' ');
            if (answer instanceof String && !DUE.contains(answer)) {
                Check.due("an exception of the document", "a call", () -> answer);
            }
            return answer;
        }
    }

    private static List<Ask> probes() {
        List<Ask> all = new ArrayList<>();
        all.add(Twins::looks);
        all.add(Twins::given);
        for (int lamp = 0; lamp < 10; lamp++) {
            int n = lamp;
            all.add(plot -> addresses(plot, n));
        }
        for (int cue = 0; cue < 8; cue++) {
            int n = cue;
            all.add(plot -> cue(plot, n));
        }
        all.add(plot -> time(plot, 0));
        all.add(plot -> time(plot, 5));
        all.add(plot -> rig(plot, 0));
        all.add(plot -> rig(plot, 1));
        return all;
    }

    /** All that calls show that change nothing. */
    private static String looks(PlotPatch plot) {
        Log log = new Log(plot);
        for (int lamp = 0; lamp < 10; lamp++) {
            int n = lamp;
            log.ask(p -> p.where(n));
            log.ask(p -> p.level(n));
            log.ask(p -> p.wanted(n));
            log.ask(p -> p.wantedByCues(n));
        }
        for (int bar = 0; bar < 4; bar++) {
            int b = bar;
            log.ask(p -> p.load(b));
            for (int rank = 0; rank < 10; rank++) {
                int r = rank;
                log.ask(p -> p.onBar(b, r));
            }
        }
        for (int many = 1; many <= 100; many++) {
            int m = many;
            log.ask(p -> p.gap(m));
        }
        log.ask(PlotPatch::burnt);
        return log.text.toString();
    }

    /** What the lamps and cues were given, how many had begun, and how many more there can be. */
    private static String given(PlotPatch plot) {
        Log log = new Log(plot);
        for (int lamp = 0; lamp < 10; lamp++) {
            int n = lamp;
            log.ask(p -> p.plug(n, PlotPatch.NONE));
            log.ask(p -> p.colour(n, 0));
            log.ask(p -> p.bulb(n));
            for (int cue = 0; cue < 8; cue++) {
                int c = cue;
                log.ask(p -> p.name(c, n, PlotPatch.NONE));
            }
        }
        log.ask(PlotPatch::rewind);
        for (int more = 0; more < 11; more++) {
            log.ask(p -> p.lamp(0, 0));
            log.ask(p -> p.cue(0, 0, 0));
            log.ask(p -> p.bar(0, 0, 1));
            log.ask(p -> p.bar(1, 0, 1));
        }
        return log.text.toString();
    }

    /** A lamp's addresses, when no other one has any. */
    private static String addresses(PlotPatch plot, int lamp) {
        Log log = new Log(plot);
        for (int other = 0; other < 10; other++) {
            int n = other;
            if (n != lamp) {
                log.ask(p -> p.patch(n, PlotPatch.NONE));
            }
        }
        for (int many = 1; many <= 100; many++) {
            int m = many;
            log.ask(p -> p.gap(m));
        }
        return log.text.toString();
    }

    /** A cue's fade, curve and follow: from the beginning on, when it alone names lamp 0. */
    private static String cue(PlotPatch plot, int cue) {
        Log log = new Log(plot);
        for (int other = 0; other < 8; other++) {
            int n = other;
            log.ask(p -> p.name(n, 0, n == cue ? 100 : PlotPatch.NONE));
        }
        log.ask(PlotPatch::rewind);
        Object last = log.ask(PlotPatch::go);
        for (int k = 0; k < cue && last instanceof Integer && (int) last < cue; k++) {
            last = log.ask(PlotPatch::go);
        }
        for (int tick = 0; tick < 51; tick++) {
            log.ask(p -> p.tick(1));
            log.ask(p -> p.wanted(0));
        }
        return log.text.toString();
    }

    /** How the show goes on by itself, and what burns by that. */
    private static String time(PlotPatch plot, int from) {
        Log log = new Log(plot);
        for (int tick = 0; tick < 51; tick++) {
            log.ask(p -> p.tick(1));
            log.ask(PlotPatch::burnt);
            for (int lamp = from; lamp < from + 5; lamp++) {
                int n = lamp;
                log.ask(p -> p.wanted(n));
            }
        }
        log.ask(PlotPatch::go);
        return log.text.toString();
    }

    /** The bars of this house, or of the other one, and what they bear. */
    private static String rig(PlotPatch plot, int tours) {
        Log log = new Log(plot);
        for (int tour = 0; tour < tours; tour++) {
            log.ask(PlotPatch::tour);
        }
        for (int bar = 0; bar < 4; bar++) {
            allDown(log);
            findEnd(log, bar);
            allDown(log);
            for (int lamp = 0; lamp < 10; lamp++) {
                int n = lamp;
                int b = bar;
                log.ask(p -> p.hang(n, b, 3 * n));
            }
        }
        return log.text.toString();
    }

    private static void allDown(Log log) {
        for (int lamp = 0; lamp < 10; lamp++) {
            int n = lamp;
            log.ask(p -> p.down(n));
        }
    }

    /** By halves: a place past the end is answered otherwise than one that bears no lamp. */
    private static void findEnd(Log log, int bar) {
        String none = DUE.get(0);
        int low = 0;
        int high = 101;
        while (high - low > 1) {
            int middle = (low + high) / 2;
            if (log.ask(p -> p.hang(0, bar, middle)).equals(none)) {
                high = middle;
            } else {
                low = middle;
            }
        }
    }
}
