/** What the tests of the project have in common: it counts the answers that are not as due. */
final class Check {
    private int made = 0;
    private int wrong = 0;

    interface Call {
        Object answer();
    }

    /** A call on an object, with a number of which the document tells the range. */
    interface Ranged {
        Object answer(LanternWalk x, int number);
    }

    /** Makes an object on which every number of the range is taken. */
    interface Maker {
        LanternWalk made();
    }

    void due(String call, Object got, Object want) {
        made++;
        if (!want.equals(got)) {
            wrong++;
            System.out.println(call + " answered " + got + ", due is " + want);
        }
    }

    /** The call throws exactly this exception, and all that the object tells stays as it was. */
    void dueThrow(String call, LanternWalk x, Class<? extends RuntimeException> want, Call made) {
        String before = allOf(x);
        due(call, answerOf(made), want);
        due(call + ", and then all there is", allOf(x), before);
    }

    /** Both ends of the range are taken; what is just beyond them, and far beyond, is refused. */
    void dueRange(String call, int least, int most, Class<? extends RuntimeException> want, Maker maker,
            Ranged made) {
        for (int end : new int[] {least, most}) {
            LanternWalk x = maker.made();
            due(call + " by " + end + " is refused", answerOf(() -> made.answer(x, end)) instanceof Class, false);
        }
        for (int beyond : new int[] {least - 1, most + 1, Integer.MIN_VALUE, Integer.MAX_VALUE}) {
            LanternWalk x = maker.made();
            dueThrow(call + " by " + beyond, x, want, () -> made.answer(x, beyond));
        }
    }

    private static Object answerOf(Call call) {
        try {
            return call.answer();
        } catch (RuntimeException e) {
            return e.getClass();
        }
    }

    /** The digest, and what it leaves out: where each steward is. */
    private static String allOf(LanternWalk x) {
        StringBuilder all = new StringBuilder();
        all.append("digest ").append(x.digest());
        for (int steward = 0; steward < 2; steward++) {
            int corner = x.post(steward, -1);
            x.post(steward, corner);
            all.append(", steward ").append(steward).append(" at ").append(corner);
        }
        return all.toString();
    }

    void end() {
        System.out.println(made + " answers looked at, " + wrong + " not as due");
        if (wrong != 0 || made == 0) {
            System.exit(1);
        }
    }
}
