/** Promise 13, pass, and the six points of how a step goes; StepBoundsTest has what bounds them. */
public final class StepTest {
    private static final int LIT = 3;
    private static final int PLACE = 5;
    private static final Check CHECK = new Check();

    public static void main(String[] args) {
        pass();
        wicksBurnDown();
        windDrains();
        windBlowsOut();
        windSparesThree();
        windOfTheStepByTheRemainder();
        lanternsAreLit();
        wickOfNoneIsNotLit();
        songsAreLearntFromTheGreatestVoice();
        songsNeedNeighbours();
        paceAndDark();
        fullPlaceStops();
        fullPlaceGoesAheadOfTheCorner();
        cornerStops();
        stewardsLetMoreThrough();
        severalCornersInAStep();
        foremostGoesFirst();
        start();
        CHECK.end();
    }

    private static void dueAll(LanternWalk x, String when, int what, int... want) {
        for (int w = 0; w < want.length; w++) {
            CHECK.due("walker(" + w + ", " + what + ") " + when, x.walker(w, what), want[w]);
        }
    }

    private static void pass() {
        LanternWalk x = new LanternWalk();
        x.come(1, 10, 0);
        CHECK.dueThrow("pass(1) without a route", x, IllegalStateException.class, () -> x.pass(1));
        CHECK.dueThrow("pass(0) without a route", x, IllegalArgumentException.class, () -> x.pass(0));
        x.addStretch(3, 1);
        int[] bad = {0, -1, 201, Integer.MIN_VALUE, Integer.MAX_VALUE};
        for (int b : bad) {
            CHECK.dueThrow("pass(" + b + ")", x, IllegalArgumentException.class, () -> x.pass(b));
        }
        x.come(1, 10, 0);
        CHECK.due("pass(3)", x.pass(3), 0);
        CHECK.due("pass(1), the first comes home", x.pass(1), 1);
        CHECK.due("pass(200), the second comes home", x.pass(200), 1);
        CHECK.due("pass(200), all are home", x.pass(200), 0);
        CHECK.due("the step", x.count(0), 404);
        LanternWalk empty = Parades.withRoute(1, 1);
        CHECK.due("pass(200) without walkers", empty.pass(200), 0);
        CHECK.due("its step", empty.count(0), 200);
    }

    private static void wicksBurnDown() {
        LanternWalk x = Parades.withRoute(20, 1);
        x.come(1, 3, 0);
        x.come(1, 0, 0);
        x.come(1, 50, 0);
        x.come(1, 1, 0);
        x.pass(1);
        dueAll(x, "behind 1", 1, 2, 0, 49, 0);
        dueAll(x, "behind 1", LIT, 1, 0, 1, 0);
        x.pass(1);
        dueAll(x, "behind 2", 1, 1, 0, 48, 0);
        x.pass(1);
        dueAll(x, "behind 3", 1, 0, 0, 47, 0);
        dueAll(x, "behind 3", LIT, 0, 0, 1, 0);
        x.pass(1);
        dueAll(x, "behind 4", 1, 0, 0, 46, 0);
    }

    private static void windDrains() {
        LanternWalk x = Parades.withRoute(20, 1);
        x.setWind(0, 5);
        x.setWind(1, 6);
        x.setWind(2, 7);
        x.come(1, 50, 0);
        x.come(1, 4, 0);
        x.pass(1);
        dueAll(x, "in wind 5", 1, 49, 3);
        x.pass(1);
        dueAll(x, "in wind 6", 1, 47, 1);
        x.pass(1);
        dueAll(x, "in wind 7", 1, 45, 0);
        dueAll(x, "in wind 7", LIT, 1, 0);
    }

    private static void windBlowsOut() {
        LanternWalk x = Parades.withRoute(20, 1);
        x.setWind(1, 7);
        x.setWind(2, 8);
        x.setWind(5, 9);
        x.come(1, 50, 0);
        x.come(1, 50, 0);
        x.pass(2);
        dueAll(x, "in wind 7", LIT, 1, 1);
        x.pass(1);
        dueAll(x, "in wind 8", LIT, 0, 0);
        dueAll(x, "in wind 8", 1, 45, 45);
        x.pass(1);
        dueAll(x, "blown out", 1, 45, 45);
        x.trim(0, 1);
        x.trim(1, 1);
        x.pass(1);
        dueAll(x, "trimmed", LIT, 1, 1);
        x.pass(1);
        dueAll(x, "in wind 9", LIT, 0, 0);
    }

    /** Three who are together have two neighbours each; one who waits is not blown out. */
    private static void windSparesThree() {
        LanternWalk x = Parades.withRoute(20, 4);
        x.setWind(2, 9);
        for (int w = 0; w < 3; w++) {
            x.come(1, 50, 0);
        }
        x.pass(2);
        dueAll(x, "behind 2", PLACE, 1, 1, 0);
        x.pass(1);
        dueAll(x, "in wind 9", LIT, 1, 1, 1);
        dueAll(x, "in wind 9", 1, 46, 46, 46);
        LanternWalk y = Parades.withRoute(20, 4);
        y.setWind(1, 9);
        for (int w = 0; w < 3; w++) {
            y.come(1, 50, 0);
        }
        y.pass(2);
        dueAll(y, "in wind 9, the last waits", LIT, 0, 0, 1);
        dueAll(y, "in wind 9, the last waits", 1, 47, 47, 47);
    }

    private static void windOfTheStepByTheRemainder() {
        LanternWalk x = Parades.withRoute(20, 4);
        x.setWind(3, 6);
        x.come(1, 200, 0);
        x.pass(3);
        CHECK.due("wick behind 3", x.walker(0, 1), 197);
        x.pass(1);
        CHECK.due("wick behind 4", x.walker(0, 1), 195);
        x.pass(9);
        CHECK.due("wick behind 13", x.walker(0, 1), 186);
        x.pass(1);
        CHECK.due("wick behind 14", x.walker(0, 1), 184);
    }

    private static void lanternsAreLit() {
        LanternWalk x = Parades.withRoute(20, 4);
        x.setWind(1, 9);
        for (int w = 0; w < 3; w++) {
            x.come(1, 50, 0);
        }
        x.pass(2);
        dueAll(x, "behind the wind", LIT, 0, 0, 1);
        x.pass(1);
        dueAll(x, "a step later", LIT, 1, 1, 1);
        // What is lit in a step burns down from the next one on.
        dueAll(x, "a step later", 1, 47, 47, 46);
        x.pass(1);
        dueAll(x, "two steps later", 1, 46, 46, 45);
    }

    /** A lantern whose wick burned up in the step lights nobody, and is not lit again. */
    private static void wickOfNoneIsNotLit() {
        LanternWalk x = Parades.withRoute(20, 4);
        x.setWind(1, 9);
        x.come(1, 50, 0);
        x.come(1, 0, 0);
        x.come(1, 4, 0);
        x.pass(2);
        dueAll(x, "behind the wind", LIT, 0, 0, 1);
        dueAll(x, "behind the wind", 1, 47, 0, 1);
        x.pass(1);
        dueAll(x, "when the last one's wick is burned up", LIT, 0, 0, 0);
    }

    private static int learnt(int[] voices, int[] versions, int length) {
        LanternWalk x = Parades.withRoute(20, 4);
        x.addSong(length);
        for (int voice : voices) {
            x.come(1, 0, voice);
        }
        x.pass(2);
        for (int w = 0; w < versions.length; w++) {
            x.teach(w, 0, versions[w]);
        }
        x.pass(1);
        for (int w = 0; w < versions.length; w++) {
            int version = versions[w];
            if (version != 0) {
                CHECK.due("what " + w + " knew", x.knows(w, 0), version);
            }
        }
        return x.knows(2, 0);
    }

    private static void songsAreLearntFromTheGreatestVoice() {
        int[] onlyThree = {0, 0, 0, 30};
        CHECK.due("learnt of 3 alone", learnt(new int[] {9, 9, 0, 2}, onlyThree, 5), 30);
        CHECK.due("learnt of the greatest, the last", learnt(new int[] {3, 4, 0, 5}, new int[] {10, 20, 0, 30}, 1), 30);
        CHECK.due("learnt of the greatest, in the midst",
                learnt(new int[] {3, 5, 9, 4}, new int[] {10, 20, 0, 30}, 1), 20);
        CHECK.due("learnt of equal ones", learnt(new int[] {4, 5, 0, 5}, new int[] {10, 20, 0, 30}, 1), 20);
        CHECK.due("learnt of all equal", learnt(new int[] {0, 0, 0, 0}, new int[] {10, 20, 0, 30}, 1), 10);
        CHECK.due("learnt of the one who knows", learnt(new int[] {9, 5, 0, 9}, new int[] {0, 20, 0, 0}, 1), 20);
        CHECK.due("kept by the one who knows", learnt(new int[] {9, 9, 0, 9}, new int[] {10, 20, 40, 30}, 1), 40);
        CHECK.due("learnt, when nobody knows", learnt(new int[] {9, 9, 9, 9}, new int[] {0, 0, 0, 0}, 1), 0);
    }

    private static void songsNeedNeighbours() {
        LanternWalk x = Parades.withRoute(20, 4);
        x.addSong(1);
        for (int w = 0; w < 3; w++) {
            x.come(1, 50, 9);
        }
        x.teach(2, 0, 5);
        x.pass(2);
        CHECK.due("learnt of one who waits", x.knows(0, 0), 0);
        LanternWalk y = Parades.withRoute(20, 4);
        y.addSong(1);
        y.come(3, 50, 9);
        y.come(1, 50, 9);
        y.pass(2);
        dueAll(y, "behind 2", PLACE, 3, 1);
        y.teach(0, 0, 5);
        y.pass(1);
        CHECK.due("learnt of one 2 places ahead", y.knows(1, 0), 0);
        LanternWalk z = Parades.withRoute(1, 1);
        z.addSong(1);
        z.come(1, 50, 9);
        z.come(1, 50, 9);
        z.pass(2);
        dueAll(z, "behind 2", 4, 2, 1);
        z.teach(0, 0, 5);
        z.pass(1);
        CHECK.due("learnt of one at home", z.knows(1, 0), 0);
        z.come(1, 50, 9);
        z.pass(1);
        z.teach(2, 0, 5);
        z.pass(1);
        CHECK.due("learnt by one at home", z.knows(1, 0), 0);
    }

    private static void paceAndDark() {
        int[][] paceWickPlace = {{1, 50, 1}, {2, 50, 2}, {3, 50, 3}, {1, 0, 1}, {2, 0, 1}, {3, 0, 2}};
        for (int[] p : paceWickPlace) {
            LanternWalk x = Parades.withRoute(20, 4);
            x.come(p[0], p[1], 0);
            x.pass(1);
            CHECK.due("place of one who started", x.walker(0, PLACE), 0);
            x.pass(1);
            CHECK.due("place by pace " + p[0] + " and wick " + p[1], x.walker(0, PLACE), p[2]);
            CHECK.due("dark steps by wick " + p[1], x.walker(0, 7), p[1] == 0 ? 1 : 0);
        }
    }

    private static void fullPlaceStops() {
        LanternWalk x = Parades.withRoute(20, 4);
        int[] paces = {1, 1, 3, 3};
        for (int pace : paces) {
            x.come(pace, 100, 0);
        }
        x.pass(2);
        dueAll(x, "behind 2", PLACE, 1, 1, 0, 0);
        x.pass(1);
        dueAll(x, "behind 3", PLACE, 2, 2, 1, 1);
        LanternWalk y = Parades.withRoute(20, 4);
        int[] looser = {2, 1, 3, 3};
        for (int pace : looser) {
            y.come(pace, 100, 0);
        }
        y.pass(2);
        dueAll(y, "of y behind 2", PLACE, 2, 1, 0, 0);
        y.pass(1);
        dueAll(y, "of y behind 3", PLACE, 4, 2, 3, 3);
    }

    /** The third one is stopped by the full place 2 itself, so the corner, which has let its two, counts no stop. */
    private static void fullPlaceGoesAheadOfTheCorner() {
        LanternWalk x = Parades.withRoute(2, 2, 10, 4);
        int[] paces = {1, 1, 3};
        for (int pace : paces) {
            x.come(pace, 100, 0);
        }
        x.pass(3);
        dueAll(x, "behind 3", PLACE, 2, 2, 1);
        CHECK.due("passed", x.stretch(0, 4), 2);
        CHECK.due("stopped", x.stretch(0, 5), 0);
        x.pass(1);
        dueAll(x, "behind 4", PLACE, 3, 3, 2);
        CHECK.due("stopped, a step later", x.stretch(0, 5), 0);
    }

    private static void cornerStops() {
        LanternWalk x = Parades.withRoute(3, 1, 10, 1);
        int[] paces = {2, 2, 3};
        for (int pace : paces) {
            x.come(pace, 100, 0);
        }
        x.pass(2);
        dueAll(x, "behind 2", PLACE, 2, 2, 0);
        CHECK.due("stopped, when nobody had to", x.stretch(0, 5), 0);
        x.pass(1);
        dueAll(x, "behind 3", PLACE, 4, 2, 2);
        CHECK.due("stopped by the one ahead of the corner and the one who came to it", x.stretch(0, 5), 2);
        CHECK.due("passed", x.stretch(0, 4), 1);
        x.pass(1);
        dueAll(x, "behind 4", PLACE, 6, 4, 2);
        CHECK.due("stopped, a step later", x.stretch(0, 5), 3);
        LanternWalk y = Parades.withRoute(2, 1, 10, 1);
        int[] again = {1, 1, 3};
        for (int pace : again) {
            y.come(pace, 100, 0);
        }
        y.pass(2);
        dueAll(y, "of y behind 2", PLACE, 1, 1, 0);
        y.pass(1);
        dueAll(y, "of y behind 3", PLACE, 2, 1, 1);
        CHECK.due("stopped, with places left to go too", y.stretch(0, 5), 2);
        LanternWalk z = Parades.withRoute(3, 1, 10, 1);
        for (int w = 0; w < 3; w++) {
            z.come(2, 100, 0);
        }
        z.pass(3);
        dueAll(z, "of z behind 3", PLACE, 4, 2, 2);
        CHECK.due("stopped, but not by the one whose pace just led there", z.stretch(0, 5), 1);
    }

    private static void stewardsLetMoreThrough() {
        int[][] lets = {{-1, -1, 1}, {0, -1, 2}, {-1, 0, 2}, {0, 0, 3}, {1, 1, 1}};
        for (int[] l : lets) {
            LanternWalk x = Parades.withRoute(1, 1, 10, 4, 1, 1);
            for (int w = 0; w < 2; w++) {
                x.come(1, 100, 0);
            }
            x.pass(1);
            x.post(0, l[0]);
            x.post(1, l[1]);
            x.pass(1);
            String stewards = " with stewards at " + l[0] + " and " + l[1];
            CHECK.due("passed" + stewards, x.stretch(0, 4), Math.min(2, l[2]));
            CHECK.due("stopped" + stewards, x.stretch(0, 5), 2 - Math.min(2, l[2]));
        }
    }

    private static void severalCornersInAStep() {
        LanternWalk x = Parades.withRoute(1, 1, 1, 1, 1, 1);
        x.come(3, 100, 0);
        x.come(3, 100, 0);
        CHECK.due("pass(1)", x.pass(1), 0);
        CHECK.due("pass(1), the first goes home", x.pass(1), 1);
        for (int s = 0; s < 3; s++) {
            CHECK.due("passed corner " + s, x.stretch(s, 4), 1);
            CHECK.due("stopped at corner " + s, x.stretch(s, 5), s == 0 ? 1 : 0);
        }
        CHECK.due("place of the second", x.walker(1, PLACE), 0);
        CHECK.due("pass(1), the second goes home", x.pass(1), 1);
        CHECK.due("the step in which it came home", x.walker(1, 8), 2);
        LanternWalk y = Parades.withRoute(1, 1);
        y.come(3, 100, 0);
        y.pass(2);
        dueAll(y, "at home, with pace left", PLACE, -1);
        dueAll(y, "at home, with pace left", 4, 2);
        CHECK.due("passed the corner", y.stretch(0, 4), 1);
    }

    /** A later number that is further ahead takes what the corner lets through. */
    private static void foremostGoesFirst() {
        LanternWalk x = Parades.withRoute(3, 1, 10, 1);
        x.come(1, 100, 0);
        x.come(2, 100, 0);
        x.pass(3);
        dueAll(x, "behind 3", PLACE, 2, 4);
        LanternWalk y = Parades.withRoute(3, 1, 10, 1);
        y.come(2, 0, 0);
        y.come(2, 100, 0);
        y.pass(2);
        dueAll(y, "of y behind 2", PLACE, 1, 2);
        y.trim(0, 100);
        y.pass(1);
        dueAll(y, "of y behind 3", PLACE, 2, 4);
        CHECK.due("stopped", y.stretch(0, 5), 1);
        LanternWalk z = Parades.withRoute(1, 1, 10, 1);
        z.come(1, 100, 0);
        z.come(1, 100, 0);
        z.pass(2);
        dueAll(z, "of z behind 2, the smallest number first", PLACE, 1, 0);
    }

    private static void start() {
        LanternWalk x = Parades.withRoute(2, 1);
        for (int w = 0; w < 5; w++) {
            x.come(1, 100, 0);
        }
        dueAll(x, "ahead of all", 4, 0, 0, 0, 0, 0);
        x.pass(1);
        dueAll(x, "behind 1", 4, 1, 1, 0, 0, 0);
        x.pass(1);
        dueAll(x, "behind 2", PLACE, 1, 1, 0, 0, -1);
        x.pass(1);
        dueAll(x, "behind 3", PLACE, -1, 1, 1, 0, 0);
        dueAll(x, "behind 3", 4, 2, 1, 1, 1, 1);
    }
}
