/** Promises 5, 6 and 10: come, trim, walker. */
public final class WalkerTest {
    private static final Class<IllegalArgumentException> ARGUMENT = IllegalArgumentException.class;
    private static final Class<IllegalStateException> STATE = IllegalStateException.class;
    private static final Class<IndexOutOfBoundsException> INDEX = IndexOutOfBoundsException.class;
    private static final Check CHECK = new Check();

    public static void main(String[] args) {
        come();
        comeWhenTheParadeGoes();
        trim();
        trimOfOneAtHome();
        walker();
        walkerOnTheWay();
        walkerInTheDark();
        CHECK.end();
    }

    private static void come() {
        LanternWalk x = new LanternWalk();
        CHECK.due("come(1, 0, 0)", x.come(1, 0, 0), 0);
        CHECK.due("come(3, 200, 9)", x.come(3, 200, 9), 1);
        CHECK.due("come(2, 1, 4)", x.come(2, 1, 4), 2);
        int[][] bad = {{0, 0, 0}, {4, 0, 0}, {1, -1, 0}, {1, 201, 0}, {1, 0, -1}, {1, 0, 10},
            {Integer.MIN_VALUE, 0, 0}, {Integer.MAX_VALUE, 0, 0}, {1, Integer.MIN_VALUE, 0},
            {1, Integer.MAX_VALUE, 0}, {1, 0, Integer.MIN_VALUE}, {1, 0, Integer.MAX_VALUE}};
        for (int[] b : bad) {
            CHECK.dueThrow("come(" + b[0] + ", " + b[1] + ", " + b[2] + ")", x, ARGUMENT,
                    () -> x.come(b[0], b[1], b[2]));
        }
        for (int number = 3; number < 20; number++) {
            CHECK.due("come the " + number + "th", x.come(1, 1, 1), number);
        }
        CHECK.dueThrow("a walker 21", x, STATE, () -> x.come(1, 1, 1));
        CHECK.dueThrow("a walker 21 of no pace", x, ARGUMENT, () -> x.come(0, 1, 1));
    }

    private static void comeWhenTheParadeGoes() {
        LanternWalk x = new LanternWalk();
        x.addStretch(10, 1);
        x.come(1, 9, 0);
        x.pass(3);
        CHECK.due("come behind steps", x.come(2, 7, 3), 1);
        CHECK.due("its stage", x.walker(1, 4), 0);
        x.pass(1);
        CHECK.due("its stage, a step later", x.walker(1, 4), 1);
        CHECK.due("its place, a step later", x.walker(1, 5), 0);
    }

    private static void trim() {
        LanternWalk x = new LanternWalk();
        x.come(1, 0, 0);
        x.come(1, 150, 0);
        CHECK.due("trim(0, 1)", x.trim(0, 1), 1);
        CHECK.due("its lantern", x.walker(0, 3), 1);
        CHECK.due("trim(0, 198)", x.trim(0, 198), 199);
        CHECK.due("trim(0, 1) to the brim", x.trim(0, 1), 200);
        CHECK.due("trim(0, 200) of a full one", x.trim(0, 200), 200);
        CHECK.due("trim(1, 51)", x.trim(1, 51), 200);
        CHECK.due("its wick", x.walker(1, 1), 200);
        int[] bad = {0, -1, 201, Integer.MIN_VALUE, Integer.MAX_VALUE};
        for (int b : bad) {
            CHECK.dueThrow("trim(0, " + b + ")", x, ARGUMENT, () -> x.trim(0, b));
            CHECK.dueThrow("trim(2, " + b + ")", x, INDEX, () -> x.trim(2, b));
        }
        int[] nobody = {-1, 2, Integer.MIN_VALUE, Integer.MAX_VALUE};
        for (int b : nobody) {
            CHECK.dueThrow("trim(" + b + ", 1)", x, INDEX, () -> x.trim(b, 1));
        }
    }

    private static void trimOfOneAtHome() {
        LanternWalk x = new LanternWalk();
        x.addStretch(1, 1);
        x.come(1, 3, 0);
        x.pass(2);
        CHECK.due("its stage", x.walker(0, 4), 2);
        CHECK.dueThrow("trim(0, 5) at home", x, STATE, () -> x.trim(0, 5));
        CHECK.dueThrow("trim(0, 0) at home", x, ARGUMENT, () -> x.trim(0, 0));
        x.come(1, 0, 0);
        x.pass(1);
        CHECK.due("trim(1, 5) of one who walks", x.trim(1, 5), 5);
        CHECK.due("its lantern", x.walker(1, 3), 1);
    }

    private static void walker() {
        LanternWalk x = new LanternWalk();
        x.come(2, 30, 7);
        x.come(3, 0, 1);
        int[][] want = {{2, 30, 7, 1, 0, -1, 0, 0, -1}, {3, 0, 1, 0, 0, -1, 0, 0, -1}};
        for (int w = 0; w < 2; w++) {
            for (int what = 0; what < 9; what++) {
                CHECK.due("walker(" + w + ", " + what + ")", x.walker(w, what), want[w][what]);
            }
        }
        int[][] bad = {{-1, 0}, {2, 0}, {0, -1}, {0, 9}, {Integer.MIN_VALUE, 0}, {Integer.MAX_VALUE, 0},
            {0, Integer.MIN_VALUE}, {0, Integer.MAX_VALUE}};
        for (int[] b : bad) {
            CHECK.dueThrow("walker(" + b[0] + ", " + b[1] + ")", x, INDEX, () -> x.walker(b[0], b[1]));
        }
    }

    /** Places 0 to 5: the first goes ahead by 2, the others by 1, the fourth waits for room. */
    private static void walkerOnTheWay() {
        LanternWalk x = new LanternWalk();
        x.addStretch(6, 4);
        x.come(2, 100, 0);
        x.come(1, 100, 0);
        x.come(1, 100, 0);
        x.pass(1);
        CHECK.due("neighbours of 0 at one place with 1", x.walker(0, 6), 1);
        CHECK.due("neighbours of 2, who waits", x.walker(2, 6), 0);
        CHECK.due("place of 2, who waits", x.walker(2, 5), -1);
        x.pass(1);
        CHECK.due("place of 0", x.walker(0, 5), 2);
        CHECK.due("place of 1", x.walker(1, 5), 1);
        CHECK.due("place of 2", x.walker(2, 5), 0);
        CHECK.due("neighbours of 0 at 2", x.walker(0, 6), 1);
        CHECK.due("neighbours of 1 at 1", x.walker(1, 6), 2);
        CHECK.due("neighbours of 2 at 0", x.walker(2, 6), 1);
        x.pass(1);
        CHECK.due("neighbours of 0 at 4, 2 ahead of the next", x.walker(0, 6), 0);
        x.pass(1);
        CHECK.due("stage of 0, who came home", x.walker(0, 4), 2);
        CHECK.due("place of 0, who came home", x.walker(0, 5), -1);
        CHECK.due("neighbours of 0, who came home", x.walker(0, 6), 0);
        CHECK.due("the step in which 0 came home", x.walker(0, 8), 3);
        CHECK.due("that of 1", x.walker(1, 8), -1);
        CHECK.due("wick of 0", x.walker(0, 1), 96);
        x.pass(10);
        CHECK.due("wick of 0, at home for long", x.walker(0, 1), 96);
        CHECK.due("lantern of 0, at home for long", x.walker(0, 3), 1);
        CHECK.due("the step in which 0 came home, for long", x.walker(0, 8), 3);
        CHECK.due("the step in which 1 came home", x.walker(1, 8), 6);
        CHECK.due("steps of 1 in the dark", x.walker(1, 7), 0);
    }

    /** A dark step counts also when the corner stops the walker, and in the step that leads home. */
    private static void walkerInTheDark() {
        LanternWalk x = new LanternWalk();
        x.addStretch(1, 1);
        for (int w = 0; w < 3; w++) {
            x.come(1, 0, 0);
        }
        x.pass(1);
        CHECK.due("dark steps of 0, who just started", x.walker(0, 7), 0);
        x.pass(1);
        CHECK.due("dark steps of 0, who went home", x.walker(0, 7), 1);
        CHECK.due("dark steps of 1, who was stopped", x.walker(1, 7), 1);
        CHECK.due("dark steps of 2, who started", x.walker(2, 7), 0);
        x.pass(5);
        CHECK.due("dark steps of 0, at home for long", x.walker(0, 7), 1);
        CHECK.due("dark steps of 1, at home for long", x.walker(1, 7), 2);
        CHECK.due("dark steps of 2, at home for long", x.walker(2, 7), 2);
    }
}
