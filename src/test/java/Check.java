/** What the tests of the project have in common: it counts the answers that are not as due. */
final class Check {
    private int made = 0;
    private int wrong = 0;

    interface Call {
        Object answer();
    }

    void due(String call, Object got, Object want) {
        made++;
        if (!want.equals(got)) {
            wrong++;
            System.out.println(call + " answered " + got + ", due is " + want);
        }
    }

    /** The call throws exactly this exception, and the object's digest stays as it was. */
    void dueThrow(String call, LanternWalk x, Class<? extends RuntimeException> want, Call made) {
        long before = x.digest();
        Object got;
        try {
            got = made.answer();
        } catch (RuntimeException e) {
            got = e.getClass();
        }
        due(call, got, want);
        due(call + ", and then digest()", x.digest(), before);
    }

    void end() {
        System.out.println(made + " answers looked at, " + wrong + " not as due");
        if (wrong != 0 || made == 0) {
            System.exit(1);
        }
    }
}
