import java.util.Objects;

/** What the tests share: counts the answers that are not as due, and prints them. */
final class Check {
    private static int made = 0;
    private static int wrong = 0;

    interface Call {
        Object run();
    }

    private Check() {
    }

    /** The call answers what is due. */
    static void due(Object want, String what, Call call) {
        Object got = answer(call);
        made++;
        if (!Objects.equals(got, want)) {
            wrong++;
            System.out.println(what + " answered " + got + ", due is " + want);
        }
    }

    /** The call throws just this exception; that it changes nothing is for Twins to see. */
    static void refused(Class<?> kind, String what, Call call) {
        due("throws " + kind.getName(), what, call);
    }

    static Object answer(Call call) {
        try {
            return call.run();
        } catch (RuntimeException e) {
            return "throws " + e.getClass().getName();
        }
    }

    static void finish(String test) {
        System.out.println(test + ": " + made + " checks, " + wrong + " wrong");
        if (wrong != 0 || made == 0) {
            System.exit(1);
        }
    }
}
