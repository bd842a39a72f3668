/** Promises 1 to 4 and 9: a new object, addStretch, post, setWind, stretch. */
public final class RouteTest {
    private static final Class<IllegalArgumentException> ARGUMENT = IllegalArgumentException.class;
    private static final Class<IllegalStateException> STATE = IllegalStateException.class;
    private static final Class<IndexOutOfBoundsException> INDEX = IndexOutOfBoundsException.class;
    private static final Check CHECK = new Check();

    public static void main(String[] args) {
        newObject();
        addStretch();
        addStretchBehindAStep();
        post();
        setWind();
        stretch();
        stretchWithWalkers();
        CHECK.end();
    }

    private static void newObject() {
        LanternWalk x = new LanternWalk();
        int[] want = {0, 0, 0, 0, 0, 0, 0, 0, 0, -1, 0};
        for (int what = 0; what < want.length; what++) {
            CHECK.due("count(" + what + ") of a new one", x.count(what), want[what]);
        }
        CHECK.dueThrow("stretch(0, 0) of a new one", x, INDEX, () -> x.stretch(0, 0));
        CHECK.dueThrow("walker(0, 0) of a new one", x, INDEX, () -> x.walker(0, 0));
        CHECK.dueThrow("song(0, 0) of a new one", x, INDEX, () -> x.song(0, 0));
        CHECK.due("light() of a new one", x.light(), 0.0);
        LanternWalk other = new LanternWalk();
        other.addStretch(3, 1);
        CHECK.due("stretches of one object, when another has one", x.count(1), 0);
    }

    private static void addStretch() {
        LanternWalk x = new LanternWalk();
        CHECK.due("addStretch(1, 1)", x.addStretch(1, 1), 0);
        CHECK.due("addStretch(20, 4)", x.addStretch(20, 4), 1);
        int[][] bad = {{0, 1}, {21, 1}, {1, 0}, {1, 5}, {-1, 1}, {1, -1},
            {Integer.MIN_VALUE, 1}, {Integer.MAX_VALUE, 1}, {1, Integer.MIN_VALUE}, {1, Integer.MAX_VALUE}};
        for (int[] b : bad) {
            CHECK.dueThrow("addStretch(" + b[0] + ", " + b[1] + ")", x, ARGUMENT, () -> x.addStretch(b[0], b[1]));
        }
        for (int number = 2; number < 10; number++) {
            CHECK.due("addStretch the " + number + "th", x.addStretch(20, 1), number);
        }
        CHECK.due("places", x.count(2), 181);
        CHECK.dueThrow("an eleventh stretch", x, STATE, () -> x.addStretch(1, 1));
        CHECK.dueThrow("an eleventh stretch, too long", x, ARGUMENT, () -> x.addStretch(21, 1));
    }

    private static void addStretchBehindAStep() {
        LanternWalk x = new LanternWalk();
        x.addStretch(2, 1);
        x.come(1, 1, 1);
        x.foresee(5, 0);
        x.home(0);
        x.advise(0, 5);
        CHECK.due("addStretch behind looking ahead alone", x.addStretch(2, 1), 1);
        x.pass(1);
        CHECK.dueThrow("addStretch behind a step", x, STATE, () -> x.addStretch(2, 1));
        CHECK.dueThrow("addStretch(0, 1) behind a step", x, ARGUMENT, () -> x.addStretch(0, 1));
    }

    private static void post() {
        LanternWalk x = new LanternWalk();
        CHECK.dueThrow("post(0, 0) without a route", x, INDEX, () -> x.post(0, 0));
        CHECK.due("post(0, -1) without a route", x.post(0, -1), -1);
        x.addStretch(5, 4);
        x.addStretch(5, 1);
        CHECK.due("post(0, 1)", x.post(0, 1), -1);
        CHECK.due("post(1, 1)", x.post(1, 1), -1);
        CHECK.due("lets of 1 with two stewards", x.stretch(1, 1), 3);
        CHECK.due("lets of 0 with none", x.stretch(0, 1), 4);
        CHECK.due("post(0, 0)", x.post(0, 0), 1);
        CHECK.due("lets of 0 with one", x.stretch(0, 1), 5);
        CHECK.due("lets of 1 with one", x.stretch(1, 1), 2);
        CHECK.due("post(0, 0) again", x.post(0, 0), 0);
        CHECK.due("post(1, -1)", x.post(1, -1), 1);
        CHECK.due("post(1, -1) again", x.post(1, -1), -1);
        CHECK.due("lets of 1 with none", x.stretch(1, 1), 1);
        int[][] bad = {{-1, 0}, {2, 0}, {2, -1}, {0, -2}, {0, 2}, {Integer.MIN_VALUE, 0}, {Integer.MAX_VALUE, 0},
            {0, Integer.MIN_VALUE}, {0, Integer.MAX_VALUE}};
        for (int[] b : bad) {
            CHECK.dueThrow("post(" + b[0] + ", " + b[1] + ")", x, INDEX, () -> x.post(b[0], b[1]));
        }
        x.pass(3);
        CHECK.due("post(0, 1) behind steps", x.post(0, 1), 0);
    }

    private static void setWind() {
        LanternWalk x = new LanternWalk();
        for (int step = 0; step < 10; step++) {
            CHECK.due("setWind(" + step + ", " + step + ")", x.setWind(step, step), 0);
        }
        for (int step = 0; step < 10; step++) {
            CHECK.due("setWind(" + step + ", 9)", x.setWind(step, 9), step);
        }
        CHECK.due("setWind(9, 0)", x.setWind(9, 0), 9);
        int[] badSteps = {-1, 10, Integer.MIN_VALUE, Integer.MAX_VALUE};
        for (int b : badSteps) {
            CHECK.dueThrow("setWind(" + b + ", 0)", x, INDEX, () -> x.setWind(b, 0));
            CHECK.dueThrow("setWind(" + b + ", 10)", x, INDEX, () -> x.setWind(b, 10));
            CHECK.dueThrow("setWind(0, " + b + ")", x, ARGUMENT, () -> x.setWind(0, b));
        }
    }

    private static void stretch() {
        LanternWalk x = new LanternWalk();
        x.addStretch(4, 2);
        x.addStretch(7, 3);
        x.addStretch(1, 1);
        int[][] want = {{4, 2, 0, 0, 0, 0}, {7, 3, 4, 0, 0, 0}, {1, 1, 11, 0, 0, 0}};
        for (int s = 0; s < 3; s++) {
            for (int what = 0; what < 6; what++) {
                CHECK.due("stretch(" + s + ", " + what + ")", x.stretch(s, what), want[s][what]);
            }
        }
        int[][] bad = {{-1, 0}, {3, 0}, {0, -1}, {0, 6}, {Integer.MIN_VALUE, 0}, {Integer.MAX_VALUE, 0},
            {0, Integer.MIN_VALUE}, {0, Integer.MAX_VALUE}};
        for (int[] b : bad) {
            CHECK.dueThrow("stretch(" + b[0] + ", " + b[1] + ")", x, INDEX, () -> x.stretch(b[0], b[1]));
        }
    }

    private static void stretchWithWalkers() {
        LanternWalk x = new LanternWalk();
        x.addStretch(1, 1);
        x.addStretch(2, 4);
        for (int w = 0; w < 3; w++) {
            x.come(1, 100, 0);
        }
        CHECK.due("on 0, when all wait", x.stretch(0, 3), 0);
        x.pass(1);
        CHECK.due("on 0, when two started", x.stretch(0, 3), 2);
        x.pass(1);
        CHECK.due("on 0, when one passed and one started", x.stretch(0, 3), 2);
        CHECK.due("on 1, when one passed", x.stretch(1, 3), 1);
        CHECK.due("passed corner 0", x.stretch(0, 4), 1);
        CHECK.due("stopped at corner 0", x.stretch(0, 5), 1);
        x.pass(1);
        CHECK.due("passed corner 0, a step later", x.stretch(0, 4), 2);
        CHECK.due("stopped at corner 0, a step later", x.stretch(0, 5), 2);
        CHECK.due("on 1, a step later", x.stretch(1, 3), 2);
        x.pass(10);
        CHECK.due("passed corner 0 in all", x.stretch(0, 4), 3);
        CHECK.due("stopped at corner 0 in all", x.stretch(0, 5), 2);
        CHECK.due("passed corner 1 in all", x.stretch(1, 4), 3);
        CHECK.due("stopped at corner 1 in all", x.stretch(1, 5), 0);
        CHECK.due("on 1, when all are home", x.stretch(1, 3), 0);
    }
}
