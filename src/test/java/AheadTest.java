/** Promises 15 to 18: foresee, home, hears, advise. */
public final class AheadTest {
    private static final Class<IllegalArgumentException> ARGUMENT = IllegalArgumentException.class;
    private static final Class<IllegalStateException> STATE = IllegalStateException.class;
    private static final Class<IndexOutOfBoundsException> INDEX = IndexOutOfBoundsException.class;
    private static final int[] NO_NUMBERS = {-1, 9, Integer.MIN_VALUE, Integer.MAX_VALUE};
    private static final Check CHECK = new Check();

    public static void main(String[] args) {
        foresee();
        foreseeWrongNumbers();
        home();
        homeFarAhead();
        hears();
        hearsFarAhead();
        withoutARoute();
        advise();
        adviseOfSeveral();
        windOfTheStep();
        adviseWrongNumbers();
        nothingIsChanged();
        CHECK.end();
    }

    private static LanternWalk jammed() {
        LanternWalk x = new LanternWalk();
        x.addStretch(1, 4);
        x.addStretch(1, 1);
        for (int w = 0; w < 4; w++) {
            x.come(1, 100, 9);
        }
        return x;
    }

    private static void foresee() {
        LanternWalk x = jammed();
        x.addSong(1);
        x.addSong(9);
        x.teach(0, 0, 5);
        x.teach(3, 1, 5);
        // Home in the steps 2 to 5, one in each.
        int[] home = {0, 0, 1, 2, 3, 4, 4};
        int[] burning = {2, 4, 3, 2, 1, 0, 0};
        int[] known = {2, 3, 8, 8, 8, 8, 8};
        for (int i = 0; i < home.length; i++) {
            int steps = i + 1;
            CHECK.due("foresee(" + steps + ", 0)", x.foresee(steps, 0), home[i]);
            CHECK.due("foresee(" + steps + ", 1)", x.foresee(steps, 1), burning[i]);
            CHECK.due("foresee(" + steps + ", 2)", x.foresee(steps, 2), known[i]);
        }
        CHECK.due("foresee(150, 0)", x.foresee(150, 0), 4);
        x.pass(3);
        CHECK.due("foresee(1, 0) behind 3", x.foresee(1, 0), 2);
        CHECK.due("count(6) behind 3", x.count(6), 1);
        x.teach(0, 1, 0);
        CHECK.due("foresee(1, 2) counts one at home", x.foresee(1, 2), 7);
        x.post(0, 1);
        CHECK.due("foresee(1, 0) with a steward", x.foresee(1, 0), 3);
    }

    private static void foreseeWrongNumbers() {
        LanternWalk x = new LanternWalk();
        int[] bad = {0, -1, 151, Integer.MIN_VALUE, Integer.MAX_VALUE};
        int[] badWhat = {-1, 3, Integer.MIN_VALUE, Integer.MAX_VALUE};
        CHECK.dueThrow("foresee(1, 3) without a route", x, INDEX, () -> x.foresee(1, 3));
        CHECK.dueThrow("foresee(0, 0) without a route", x, ARGUMENT, () -> x.foresee(0, 0));
        CHECK.dueThrow("foresee(1, 0) without a route", x, STATE, () -> x.foresee(1, 0));
        x.addStretch(1, 1);
        for (int b : bad) {
            CHECK.dueThrow("foresee(" + b + ", 0)", x, ARGUMENT, () -> x.foresee(b, 0));
            CHECK.dueThrow("foresee(" + b + ", 3)", x, ARGUMENT, () -> x.foresee(b, 3));
        }
        for (int b : badWhat) {
            CHECK.dueThrow("foresee(1, " + b + ")", x, INDEX, () -> x.foresee(1, b));
        }
    }

    private static void home() {
        LanternWalk x = jammed();
        for (int w = 0; w < 4; w++) {
            CHECK.due("home(" + w + ")", x.home(w), 3 + w);
        }
        x.pass(3);
        CHECK.due("home(0) at home", x.home(0), 0);
        CHECK.due("home(3) behind 3", x.home(3), 3);
        x.post(1, 1);
        CHECK.due("home(3) with a steward", x.home(3), 2);
        for (int b : NO_NUMBERS) {
            CHECK.dueThrow("home(" + b + ")", x, INDEX, () -> x.home(b));
        }
        CHECK.dueThrow("home(4)", x, INDEX, () -> x.home(4));
    }

    /** The longest way: twenty of pace 1 in 200 places, two of whom start at a time. */
    private static void homeFarAhead() {
        LanternWalk x = new LanternWalk();
        for (int s = 0; s < 10; s++) {
            x.addStretch(20, 4);
        }
        for (int w = 0; w < 20; w++) {
            x.come(1, 0, 0);
        }
        CHECK.due("home(0) of the longest way", x.home(0), 201);
        CHECK.due("home(19) of the longest way", x.home(19), 210);
        CHECK.due("foresee(150, 0) of the longest way", x.foresee(150, 0), 0);
        CHECK.due("advise(0, 100) of the longest way", x.advise(0, 100), -1);
    }

    private static void hears() {
        LanternWalk x = jammed();
        x.addSong(1);
        x.addSong(9);
        x.teach(3, 0, 5);
        CHECK.due("hears(3, 0), who knows it", x.hears(3, 0), 0);
        CHECK.due("hears(2, 0)", x.hears(2, 0), 3);
        CHECK.due("hears(1, 0)", x.hears(1, 0), 3);
        CHECK.due("hears(0, 0)", x.hears(0, 0), 3);
        CHECK.due("hears(0, 1), which nobody knows", x.hears(0, 1), -1);
        x.pass(3);
        CHECK.due("hears(0, 1) at home", x.hears(0, 1), -1);
        CHECK.due("hears(0, 0) at home", x.hears(0, 0), 0);
        for (int b : NO_NUMBERS) {
            CHECK.dueThrow("hears(" + b + ", 0)", x, INDEX, () -> x.hears(b, 0));
            CHECK.dueThrow("hears(0, " + b + ")", x, INDEX, () -> x.hears(0, b));
        }
        CHECK.dueThrow("hears(4, 0)", x, INDEX, () -> x.hears(4, 0));
        CHECK.dueThrow("hears(0, 2)", x, INDEX, () -> x.hears(0, 2));
    }

    /** Two go side by side: the one with some wick hears the other only when it is burned up. */
    private static void hearsFarAhead() {
        for (int wick = 148; wick <= 152; wick++) {
            LanternWalk x = new LanternWalk();
            for (int s = 0; s < 10; s++) {
                x.addStretch(20, 4);
            }
            x.addSong(3);
            x.come(1, 0, 0);
            x.come(1, wick, 0);
            x.teach(0, 0, 9);
            CHECK.due("hears(1, 0) with a wick of " + wick, x.hears(1, 0), wick <= 150 ? wick : -1);
            CHECK.due("foresee(150, 2) with a wick of " + wick, x.foresee(150, 2), wick <= 150 ? 2 : 1);
            x.pass(2);
            CHECK.due("hears(1, 0) 2 steps later with a wick of " + wick, x.hears(1, 0), wick - 2);
        }
    }

    private static void withoutARoute() {
        LanternWalk x = new LanternWalk();
        x.come(1, 10, 9);
        x.come(1, 10, 9);
        x.addSong(1);
        x.teach(0, 0, 4);
        CHECK.due("home(0) without a route", x.home(0), -1);
        CHECK.due("hears(1, 0) without a route", x.hears(1, 0), -1);
        CHECK.due("hears(0, 0) without a route, who knows it", x.hears(0, 0), 0);
        CHECK.dueThrow("home(2) without a route", x, INDEX, () -> x.home(2));
        CHECK.dueThrow("hears(0, 1) without a route", x, INDEX, () -> x.hears(0, 1));
        CHECK.dueThrow("advise(0, 1) without a route", x, STATE, () -> x.advise(0, 1));
        CHECK.dueThrow("advise(0, 0) without a route", x, ARGUMENT, () -> x.advise(0, 0));
        CHECK.dueThrow("advise(2, 1) without a route", x, INDEX, () -> x.advise(2, 1));
    }

    /** Without a steward home in the steps 2 to 5; with one at the corner 1 two in each of 2 and 3. */
    private static void advise() {
        LanternWalk x = jammed();
        int[] want = {-1, -1, 1, 1, 1, -1, -1};
        for (int i = 0; i < want.length; i++) {
            for (int steward = 0; steward < 2; steward++) {
                CHECK.due("advise(" + steward + ", " + (i + 1) + ")", x.advise(steward, i + 1), want[i]);
            }
        }
        CHECK.due("advise(0, 100)", x.advise(0, 100), -1);
        x.post(0, 1);
        CHECK.due("advise(0, 4), who is there", x.advise(0, 4), 1);
        CHECK.due("advise(1, 4), when one is there", x.advise(1, 4), -1);
        x.post(0, 0);
        CHECK.due("advise(0, 4), who is elsewhere", x.advise(0, 4), 1);
        CHECK.due("where the steward is", x.post(0, -1), 0);
    }

    private static void adviseOfSeveral() {
        LanternWalk x = new LanternWalk();
        x.addStretch(1, 1);
        x.addStretch(1, 1);
        for (int w = 0; w < 2; w++) {
            x.come(1, 100, 0);
        }
        // Alone: 0 is home in the step 2, 1 in 3. A steward at one corner alone moves the jam to the other.
        CHECK.due("advise(0, 3)", x.advise(0, 3), -1);
        x.post(1, 0);
        CHECK.due("advise(0, 3), when the other helps at 0", x.advise(0, 3), 1);
        x.post(1, 1);
        CHECK.due("advise(0, 3), when the other helps at 1", x.advise(0, 3), 0);
        // Of pace 2, the second is home in the step 1 by a steward at 0, and in 2 by one at 1: with both it is 2 by then.
        LanternWalk y = new LanternWalk();
        y.addStretch(1, 1);
        y.addStretch(1, 1);
        y.come(1, 100, 0);
        y.come(2, 100, 0);
        CHECK.due("advise(1, 3), when either corner is as good", y.advise(1, 3), 0);
        CHECK.due("advise(1, 2), when the first alone is good", y.advise(1, 2), 0);
        y.post(0, 0);
        CHECK.due("advise(1, 2), when the other helps at 0", y.advise(1, 2), -1);
    }

    /** Looking ahead goes on from the step that it is, so with the wind of that step. */
    private static void windOfTheStep() {
        LanternWalk x = new LanternWalk();
        x.addStretch(20, 4);
        x.addSong(3);
        x.come(2, 100, 0);
        x.come(1, 0, 0);
        x.setWind(3, 8);
        x.pass(1);
        CHECK.due("foresee(2, 1) ahead of the wind", x.foresee(2, 1), 1);
        CHECK.due("foresee(3, 1) with the wind", x.foresee(3, 1), 0);
        CHECK.due("home(0), slow from the wind on", x.home(0), 18);
        x.setWind(3, 0);
        CHECK.due("foresee(3, 1) without the wind", x.foresee(3, 1), 1);
        CHECK.due("home(0) without the wind", x.home(0), 10);
        x.setWind(0, 8);
        CHECK.due("foresee(2, 1) with the wind of a step gone by", x.foresee(2, 1), 1);
    }

    private static void adviseWrongNumbers() {
        LanternWalk x = jammed();
        int[] badSteward = {-1, 2, Integer.MIN_VALUE, Integer.MAX_VALUE};
        int[] badSteps = {0, -1, 101, Integer.MIN_VALUE, Integer.MAX_VALUE};
        for (int b : badSteward) {
            CHECK.dueThrow("advise(" + b + ", 1)", x, INDEX, () -> x.advise(b, 1));
            CHECK.dueThrow("advise(" + b + ", 0)", x, INDEX, () -> x.advise(b, 0));
        }
        for (int b : badSteps) {
            CHECK.dueThrow("advise(0, " + b + ")", x, ARGUMENT, () -> x.advise(0, b));
        }
    }

    /** Looking ahead between all steps leaves the parade as one that is not looked at. */
    private static void nothingIsChanged() {
        LanternWalk looked = jammed();
        LanternWalk plain = jammed();
        looked.addSong(3);
        plain.addSong(3);
        looked.teach(2, 0, 7);
        plain.teach(2, 0, 7);
        for (int i = 0; i < 9; i++) {
            looked.foresee(150, i % 3);
            looked.home(i % 4);
            looked.hears(i % 4, 0);
            looked.advise(i % 2, 10);
            looked.light();
            CHECK.due("digest() behind looking, behind " + i, looked.digest(), plain.digest());
            looked.pass(1);
            plain.pass(1);
        }
        CHECK.due("digest() at the end", looked.digest(), plain.digest());
    }
}
