import java.math.BigInteger;

/** The bounds that the promises 1 to 20 tell of their calls, promise by promise: a test for each sentence. */
public final class CallBoundsTest {
    private static final Class<IllegalArgumentException> ARGUMENT = IllegalArgumentException.class;
    private static final Class<IllegalStateException> STATE = IllegalStateException.class;
    private static final Class<IndexOutOfBoundsException> INDEX = IndexOutOfBoundsException.class;
    private static final Check CHECK = new Check();

    public static void main(String[] args) {
        newObjectIsEmpty();
        addStretchRanges();
        addStretchOnlyAheadOfTheSteps();
        postRanges();
        postTellsTheStretchBefore();
        setWindRanges();
        comeRanges();
        trimRanges();
        trimIsAtMostTwoHundredInAll();
        trimBurnsUnlessHome();
        addSongRanges();
        teachRanges();
        lookingRanges();
        walkerTellsNoneAsMinusOne();
        songTellsVersions();
        passRanges();
        passTellsWhoCameHomeInIt();
        countTellsNone();
        foreseeRanges();
        foreseeEndsAtItsSteps();
        homeRanges();
        homeIsToldFromNothingToTheLongestWay();
        hearsRanges();
        hearsIsAtMostAHundredAndFifty();
        adviseRanges();
        adviseEndsAtItsSteps();
        adviseTellsTheSmallestOfSeveral();
        lightIsNoneToAll();
        digestWrapsAround();
        CHECK.end();
    }

    /** Three stretches, two walkers who wait, two songs; nothing has gone by. */
    private static LanternWalk small() {
        LanternWalk x = Parades.come(Parades.withRoute(2, 1, 1, 1, 4, 1), 50, 5, 1, 2);
        x.addSong(1);
        x.addSong(9);
        return x;
    }

    private static LanternWalk withoutARoute() {
        LanternWalk x = Parades.come(new LanternWalk(), 50, 5, 1, 2);
        x.addSong(1);
        return x;
    }

    // ---- promises 1 to 8

    /** Promise 1: "without a route and walkers, at the step 0" */
    private static void newObjectIsEmpty() {
        LanternWalk x = new LanternWalk();
        for (int what = 0; what <= 10; what++) {
            CHECK.due("count(" + what + ") of a new one", x.count(what), what == 9 ? -1 : 0);
        }
        CHECK.dueThrow("stretch(0, 0) of a new one", x, INDEX, () -> x.stretch(0, 0));
        CHECK.dueThrow("walker(0, 0) of a new one", x, INDEX, () -> x.walker(0, 0));
        CHECK.dueThrow("song(0, 0) of a new one", x, INDEX, () -> x.song(0, 0));
        CHECK.dueThrow("knows(0, 0) of a new one", x, INDEX, () -> x.knows(0, 0));
        CHECK.dueThrow("pass(1) of a new one", x, STATE, () -> x.pass(1));
        CHECK.due("addStretch of a new one", x.addStretch(1, 1), 0);
        CHECK.due("come of a new one", x.come(1, 0, 0), 0);
        CHECK.due("addSong of a new one", x.addSong(1), 0);
    }

    /** Promise 2: "if length is not 1 to 20, or lets is not 1 to 4" */
    private static void addStretchRanges() {
        CHECK.dueRange("addStretch, length", 1, 20, ARGUMENT, LanternWalk::new, (x, n) -> x.addStretch(n, 4));
        CHECK.dueRange("addStretch, lets", 1, 4, ARGUMENT, LanternWalk::new, (x, n) -> x.addStretch(20, n));
    }

    /** Promise 2: "if there are 10, or a step has gone by"; to look ahead lets none go by. */
    private static void addStretchOnlyAheadOfTheSteps() {
        LanternWalk x = small();
        x.foresee(150, 0);
        x.home(1);
        x.hears(1, 0);
        x.advise(0, 100);
        CHECK.due("addStretch at the step 0", x.addStretch(1, 1), 3);
        x.pass(1);
        CHECK.dueThrow("addStretch at the step 1", x, STATE, () -> x.addStretch(1, 1));
        x.pass(9);
        CHECK.dueThrow("addStretch at the step 10", x, STATE, () -> x.addStretch(1, 1));
        LanternWalk ten = Parades.withLongestRoute(1);
        CHECK.dueThrow("addStretch with 10 there, at the step 0", ten, STATE, () -> ten.addStretch(1, 1));
    }

    /** Promise 3: "if steward is not 0 to 1, or there is no such stretch, but -1" */
    private static void postRanges() {
        CHECK.dueRange("post, steward", 0, 1, INDEX, CallBoundsTest::small, (x, n) -> x.post(n, 2));
        CHECK.dueRange("post, steward to none", 0, 1, INDEX, CallBoundsTest::small, (x, n) -> x.post(n, -1));
        CHECK.dueRange("post, stretch", -1, 2, INDEX, CallBoundsTest::small, (x, n) -> x.post(1, n));
        CHECK.dueRange("post, stretch of a full route", -1, 9, INDEX, () -> Parades.withLongestRoute(1),
                (x, n) -> x.post(0, n));
        CHECK.dueRange("post, stretch without a route", -1, -1, INDEX, LanternWalk::new, (x, n) -> x.post(0, n));
    }

    /** Promise 3: "Returns the stretch before, -1 for none." */
    private static void postTellsTheStretchBefore() {
        LanternWalk x = small();
        for (int steward = 0; steward < 2; steward++) {
            CHECK.due("post of one at none", x.post(steward, 0), -1);
            CHECK.due("post of one at 0", x.post(steward, 2), 0);
            CHECK.due("post of one at 2, to 2", x.post(steward, 2), 2);
            CHECK.due("post of one at 2", x.post(steward, -1), 2);
            CHECK.due("post of one at none, to none", x.post(steward, -1), -1);
        }
    }

    /** Promise 4: "if step is not 0 to 9", "if wind is not 0 to 9"; "Returns the wind before." */
    private static void setWindRanges() {
        CHECK.dueRange("setWind, step", 0, 9, INDEX, LanternWalk::new, (x, n) -> x.setWind(n, 0));
        CHECK.dueRange("setWind, wind", 0, 9, ARGUMENT, LanternWalk::new, (x, n) -> x.setWind(0, n));
        LanternWalk x = new LanternWalk();
        CHECK.due("setWind(9, 9)", x.setWind(9, 9), 0);
        CHECK.due("setWind(9, 0)", x.setWind(9, 0), 9);
        CHECK.due("setWind(9, 0) again", x.setWind(9, 0), 0);
        CHECK.due("setWind(0, 0)", x.setWind(0, 0), 0);
    }

    /** Promise 5: "if pace is not 1 to 3, wick is not 0 to 200, or voice is not 0 to 9"; "if there are 20" */
    private static void comeRanges() {
        CHECK.dueRange("come, pace", 1, 3, ARGUMENT, LanternWalk::new, (x, n) -> x.come(n, 200, 9));
        CHECK.dueRange("come, wick", 0, 200, ARGUMENT, LanternWalk::new, (x, n) -> x.come(3, n, 9));
        CHECK.dueRange("come, voice", 0, 9, ARGUMENT, LanternWalk::new, (x, n) -> x.come(3, 200, n));
        LanternWalk x = Parades.withRoute(1, 4);
        for (int w = 0; w < 19; w++) {
            x.come(1, 0, 0);
        }
        CHECK.due("come with 19 there", x.come(1, 0, 0), 19);
        x.pass(30);
        CHECK.due("who is home", x.count(6), 20);
        CHECK.dueThrow("come with 20 there, all home", x, STATE, () -> x.come(1, 0, 0));
    }

    /** Promise 6: "if there is no such walker", "if wick is not 1 to 200" */
    private static void trimRanges() {
        CHECK.dueRange("trim, walker", 0, 1, INDEX, CallBoundsTest::small, (x, n) -> x.trim(n, 1));
        CHECK.dueRange("trim, wick", 1, 200, ARGUMENT, CallBoundsTest::small, (x, n) -> x.trim(0, n));
        LanternWalk none = new LanternWalk();
        CHECK.dueThrow("trim(0, 1) without walkers", none, INDEX, () -> none.trim(0, 1));
    }

    /** Promise 6: "(at most 200 in all)"; "Returns the wick then." */
    private static void trimIsAtMostTwoHundredInAll() {
        int[][] hadMoreThen = {{0, 1, 1}, {0, 200, 200}, {1, 198, 199}, {1, 199, 200}, {1, 200, 200}, {199, 1, 200},
            {199, 2, 200}, {200, 1, 200}, {200, 200, 200}};
        for (int[] h : hadMoreThen) {
            LanternWalk x = Parades.come(new LanternWalk(), h[0], 0, 1);
            CHECK.due("trim by " + h[1] + " of " + h[0], x.trim(0, h[1]), h[2]);
            CHECK.due("the wick then", x.walker(0, 1), h[2]);
        }
    }

    /** Promise 6: "and burns"; "if this one is home" */
    private static void trimBurnsUnlessHome() {
        LanternWalk x = Parades.come(Parades.withRoute(1, 1), 0, 0, 1);
        CHECK.due("lantern of one who waits", x.walker(0, 3), 0);
        x.trim(0, 1);
        CHECK.due("lantern of one who waits, trimmed", x.walker(0, 3), 1);
        x.pass(1);
        CHECK.due("lantern of one who walks", x.walker(0, 3), 0);
        x.trim(0, 1);
        CHECK.due("lantern of one who walks, trimmed", x.walker(0, 3), 1);
        x.pass(1);
        CHECK.due("whether it is home", x.walker(0, 4), 2);
        CHECK.dueThrow("trim(0, 1) of one at home", x, STATE, () -> x.trim(0, 1));
    }

    /** Promise 7: "if length is not 1 to 9", "if there are 6" */
    private static void addSongRanges() {
        CHECK.dueRange("addSong, length", 1, 9, ARGUMENT, LanternWalk::new, (x, n) -> x.addSong(n));
        LanternWalk x = new LanternWalk();
        for (int number = 0; number < 5; number++) {
            x.addSong(9);
        }
        CHECK.due("addSong with 5 there", x.addSong(1), 5);
        CHECK.dueThrow("addSong with 6 there", x, STATE, () -> x.addSong(1));
    }

    /** Promise 8: "if there is no such walker or song", "if version is not 0 to 99"; "what this one knew before" */
    private static void teachRanges() {
        CHECK.dueRange("teach, walker", 0, 1, INDEX, CallBoundsTest::small, (x, n) -> x.teach(n, 1, 5));
        CHECK.dueRange("teach, song", 0, 1, INDEX, CallBoundsTest::small, (x, n) -> x.teach(1, n, 5));
        CHECK.dueRange("teach, version", 0, 99, ARGUMENT, CallBoundsTest::small, (x, n) -> x.teach(1, 1, n));
        LanternWalk x = small();
        int[] versions = {99, 1, 0, 0};
        int before = 0;
        for (int version : versions) {
            CHECK.due("teach(1, 1, " + version + ")", x.teach(1, 1, version), before);
            before = version;
        }
    }

    // ---- promises 9 to 12

    /** Promises 9 to 12 and 14: "if there is no such ..", "what is not 0 to .." */
    private static void lookingRanges() {
        Check.Maker small = CallBoundsTest::small;
        CHECK.dueRange("stretch, stretch", 0, 2, INDEX, small, (x, n) -> x.stretch(n, 5));
        CHECK.dueRange("stretch, what", 0, 5, INDEX, small, (x, n) -> x.stretch(2, n));
        CHECK.dueRange("walker, walker", 0, 1, INDEX, small, (x, n) -> x.walker(n, 8));
        CHECK.dueRange("walker, what", 0, 8, INDEX, small, (x, n) -> x.walker(1, n));
        CHECK.dueRange("knows, walker", 0, 1, INDEX, small, (x, n) -> x.knows(n, 1));
        CHECK.dueRange("knows, song", 0, 1, INDEX, small, (x, n) -> x.knows(1, n));
        CHECK.dueRange("song, song", 0, 1, INDEX, small, (x, n) -> x.song(n, 3));
        CHECK.dueRange("song, what", 0, 3, INDEX, small, (x, n) -> x.song(1, n));
        CHECK.dueRange("count, what", 0, 10, INDEX, small, (x, n) -> x.count(n));
        CHECK.dueRange("count, what of a new one", 0, 10, INDEX, LanternWalk::new, (x, n) -> x.count(n));
    }

    /** Promise 10: "5 the place, -1 otherwise", "8 the step in which this one came home, -1 if not yet" */
    private static void walkerTellsNoneAsMinusOne() {
        LanternWalk x = Parades.come(Parades.withRoute(1, 1), 0, 0, 1, 1, 1);
        int[][] placeAndStep = {{-1, -1}, {0, -1}, {-1, 1}, {-1, 1}};
        for (int[] want : placeAndStep) {
            CHECK.due("place at " + x.count(0), x.walker(0, 5), want[0]);
            CHECK.due("the step of coming home, at " + x.count(0), x.walker(0, 8), want[1]);
            x.pass(1);
        }
    }

    /** Promise 12: "walkers who know it", "different versions", "of several the smallest one, 0 if nobody knows it" */
    private static void songTellsVersions() {
        int[][] knownAndTold = {{0, 0, 0, 0, 0, 0, 0}, {0, 0, 0, 99, 1, 1, 99}, {0, 1, 0, 0, 1, 1, 1},
            {99, 0, 0, 98, 2, 2, 98}, {98, 99, 99, 98, 4, 2, 98}, {98, 99, 99, 0, 3, 2, 99}, {5, 5, 5, 5, 4, 1, 5},
            {4, 3, 2, 1, 4, 4, 1}, {9, 0, 0, 9, 2, 1, 9}, {1, 99, 99, 2, 4, 3, 99}};
        for (int[] k : knownAndTold) {
            LanternWalk x = Parades.come(new LanternWalk(), 0, 0, 1, 1, 1, 1);
            x.addSong(7);
            x.addSong(8);
            for (int w = 0; w < 4; w++) {
                x.teach(w, 0, k[w]);
            }
            String when = ", when " + k[0] + ", " + k[1] + ", " + k[2] + ", " + k[3] + " are known";
            CHECK.due("song(0, 0)" + when, x.song(0, 0), 7);
            for (int what = 1; what <= 3; what++) {
                CHECK.due("song(0, " + what + ")" + when, x.song(0, what), k[3 + what]);
                CHECK.due("song(1, " + what + ")" + when, x.song(1, what), 0);
            }
        }
    }

    // ---- promises 13 and 14

    /** Promise 13: "if steps is not 1 to 200", "if the route has no stretch" */
    private static void passRanges() {
        CHECK.dueRange("pass", 1, 200, ARGUMENT, CallBoundsTest::small, (x, n) -> x.pass(n));
        LanternWalk x = withoutARoute();
        CHECK.dueThrow("pass(1) without a route", x, STATE, () -> x.pass(1));
        CHECK.dueThrow("pass(200) without a route", x, STATE, () -> x.pass(200));
        x.addStretch(1, 1);
        CHECK.due("pass(1) with a stretch", x.pass(1), 0);
    }

    /** Promise 13: "Returns how many walkers came home in them.": none, some or all; not those home before. */
    private static void passTellsWhoCameHomeInIt() {
        for (int last = 18; last <= 20; last++) {
            LanternWalk x = new LanternWalk();
            for (int s = 0; s < 9; s++) {
                x.addStretch(20, 1);
            }
            x.addStretch(last, 1);
            Parades.come(x, 0, 0, 1);
            CHECK.due("pass(200) on " + x.count(2) + " places", x.pass(200), last <= 19 ? 1 : 0);
            CHECK.due("pass(1) then", x.pass(1), last <= 19 ? 0 : 1);
        }
        LanternWalk all = Parades.withRoute(1, 2);
        for (int w = 0; w < 20; w++) {
            all.come(1, 0, 0);
        }
        CHECK.due("pass(1)", all.pass(1), 0);
        CHECK.due("pass(4)", all.pass(4), 8);
        CHECK.due("pass(200)", all.pass(200), 12);
        CHECK.due("pass(1) with all at home", all.pass(1), 0);
    }

    /** Promise 14: "9 the place of the foremost one who walks, -1 for none, 10 the difference .., 0 for none" */
    private static void countTellsNone() {
        LanternWalk x = Parades.come(Parades.withRoute(3, 1), 0, 0, 1, 1, 1);
        int[][] foremostAndDifference = {{-1, 0}, {0, 0}, {1, 1}, {2, 1}, {2, 0}, {2, 0}, {-1, 0}};
        for (int[] want : foremostAndDifference) {
            CHECK.due("count(9) at " + x.count(0), x.count(9), want[0]);
            CHECK.due("count(10) at " + x.count(0), x.count(10), want[1]);
            x.pass(1);
        }
        LanternWalk empty = Parades.withRoute(1, 1);
        empty.pass(5);
        CHECK.due("count(9) without walkers", empty.count(9), -1);
        CHECK.due("count(10) without walkers", empty.count(10), 0);
    }

    // ---- promises 15 to 18

    /** Promise 15: "if steps is not 1 to 150", "if what is not 0 to 2", "if the route has no stretch" */
    private static void foreseeRanges() {
        CHECK.dueRange("foresee, steps", 1, 150, ARGUMENT, CallBoundsTest::small, (x, n) -> x.foresee(n, 0));
        CHECK.dueRange("foresee, what", 0, 2, INDEX, CallBoundsTest::small, (x, n) -> x.foresee(1, n));
        LanternWalk x = withoutARoute();
        for (int what = 0; what <= 2; what++) {
            int w = what;
            CHECK.dueThrow("foresee(1, " + w + ") without a route", x, STATE, () -> x.foresee(1, w));
        }
        x.addStretch(1, 1);
        CHECK.due("foresee(1, 0) with a stretch", x.foresee(1, 0), 0);
    }

    /** A route of so many places for one of pace 1, who is home behind as many steps, and one. */
    private static LanternWalk onPlaces(int places) {
        LanternWalk x = new LanternWalk();
        for (int s = 0; s < 10; s++) {
            x.addStretch(places / 10 + (s < places % 10 ? 1 : 0), 1);
        }
        return Parades.come(x, 0, 0, 1);
    }

    /** Promise 15: "how many, 1 to 150": what is told is behind just so many. */
    private static void foreseeEndsAtItsSteps() {
        CHECK.due("foresee(150, 0) on 149 places", onPlaces(149).foresee(150, 0), 1);
        CHECK.due("foresee(149, 0) on 149 places", onPlaces(149).foresee(149, 0), 0);
        CHECK.due("foresee(150, 0) on 150 places", onPlaces(150).foresee(150, 0), 0);
        LanternWalk x = Parades.come(Parades.withRoute(1, 1), 2, 0, 1, 1);
        CHECK.due("foresee(1, 1)", x.foresee(1, 1), 2);
        CHECK.due("foresee(2, 1)", x.foresee(2, 1), 0);
        CHECK.due("foresee(1, 2), when there is no song", x.foresee(1, 2), 0);
        LanternWalk full = Parades.withRoute(1, 1);
        for (int w = 0; w < 20; w++) {
            full.come(1, 0, 0);
        }
        for (int s = 0; s < 6; s++) {
            full.addSong(9);
            for (int w = 0; w < 20; w++) {
                full.teach(w, s, 1);
            }
        }
        CHECK.due("foresee(1, 2), when all know all", full.foresee(1, 2), 120);
    }

    /** Promise 16: "if there is no such walker"; "or without a route" */
    private static void homeRanges() {
        CHECK.dueRange("home", 0, 1, INDEX, CallBoundsTest::small, (x, n) -> x.home(n));
        CHECK.dueRange("home without a route", 0, 1, INDEX, CallBoundsTest::withoutARoute, (x, n) -> x.home(n));
        LanternWalk x = withoutARoute();
        CHECK.due("home(0) without a route", x.home(0), -1);
        x.addStretch(1, 1);
        CHECK.due("home(0) with a stretch", x.home(0), 2);
    }

    /**
     * Promise 16: "0 if this one is, at most 300". No parade has a longer way than 220 steps: the
     * foremost is home behind 201, and as a step lets each of the others fall behind the one ahead
     * by one step at most, the last of 20 behind 19 more.
     */
    private static void homeIsToldFromNothingToTheLongestWay() {
        LanternWalk x = Parades.come(Parades.withRoute(1, 1), 0, 0, 1);
        for (int steps = 2; steps >= 0; steps--) {
            CHECK.due("home(0) at " + x.count(0), x.home(0), steps);
            x.pass(1);
        }
        CHECK.due("home(0) for long", x.home(0), 0);
        LanternWalk longest = Parades.withLongestRoute(1);
        for (int w = 0; w < 20; w++) {
            longest.come(1, 0, 0);
        }
        for (int w = 0; w < 20; w++) {
            CHECK.due("home(" + w + ") of the longest way", longest.home(w), 201 + w);
        }
        longest.pass(200);
        CHECK.due("home(19) 200 steps later", longest.home(19), 20);
    }

    /** Promise 17: "if there is no such walker or song"; "or without a route" */
    private static void hearsRanges() {
        CHECK.dueRange("hears, walker", 0, 1, INDEX, CallBoundsTest::small, (x, n) -> x.hears(n, 1));
        CHECK.dueRange("hears, song", 0, 1, INDEX, CallBoundsTest::small, (x, n) -> x.hears(1, n));
        CHECK.dueRange("hears without a route, song", 0, 0, INDEX, CallBoundsTest::withoutARoute,
                (x, n) -> x.hears(1, n));
        LanternWalk x = withoutARoute();
        x.teach(0, 0, 5);
        CHECK.due("hears(1, 0) without a route", x.hears(1, 0), -1);
        CHECK.due("hears(0, 0) without a route, who knows it", x.hears(0, 0), 0);
        x.addStretch(1, 1);
        CHECK.due("hears(1, 0) with a stretch", x.hears(1, 0), 2);
    }

    /** Promise 17: "0 if this one does, at most 150; -1 if not by then": heard when a wick is burned up. */
    private static void hearsIsAtMostAHundredAndFifty() {
        for (int wick = 149; wick <= 151; wick++) {
            LanternWalk x = Parades.withLongestRoute(4);
            x.addSong(3);
            x.come(1, 0, 0);
            x.come(1, wick, 0);
            x.teach(0, 0, 1);
            CHECK.due("hears(0, 0), who knows it", x.hears(0, 0), 0);
            CHECK.due("hears(1, 0) by a wick of " + wick, x.hears(1, 0), wick <= 150 ? wick : -1);
            x.pass(wick - 1);
            CHECK.due("hears(1, 0) a step ahead", x.hears(1, 0), 1);
            x.pass(1);
            CHECK.due("hears(1, 0) then", x.hears(1, 0), 0);
        }
    }

    /** Promise 18: "if steward is not 0 to 1", "if steps is not 1 to 100", "if the route has no stretch" */
    private static void adviseRanges() {
        CHECK.dueRange("advise, steward", 0, 1, INDEX, CallBoundsTest::small, (x, n) -> x.advise(n, 1));
        CHECK.dueRange("advise, steps", 1, 100, ARGUMENT, CallBoundsTest::small, (x, n) -> x.advise(1, n));
        LanternWalk x = withoutARoute();
        CHECK.dueThrow("advise(0, 1) without a route", x, STATE, () -> x.advise(0, 1));
        x.addStretch(1, 1);
        CHECK.due("advise(0, 1) with a stretch", x.advise(0, 1), -1);
        CHECK.due("advise(0, 2) with a stretch", x.advise(0, 2), 0);
    }

    /** Promise 18: "behind so many steps": two side by side, of whom the corner lets one wait for a step. */
    private static void adviseEndsAtItsSteps() {
        for (int places = 98; places <= 100; places++) {
            LanternWalk x = new LanternWalk();
            for (int s = 0; s < 4; s++) {
                x.addStretch(20, 4);
            }
            x.addStretch(places - 80, 1);
            Parades.come(x, 0, 0, 1, 1);
            CHECK.due("advise(0, 99) on " + places + " places", x.advise(0, 99), places == 98 ? 4 : -1);
            CHECK.due("advise(0, 100) on " + places + " places", x.advise(0, 100), places == 99 ? 4 : -1);
        }
    }

    /** Promise 18: "of several the one with the smallest number; but none, if these are not more than .. at none" */
    private static void adviseTellsTheSmallestOfSeveral() {
        LanternWalk x = Parades.come(Parades.withRoute(1, 4, 1, 1, 1, 1), 100, 0, 1, 2, 3, 1);
        int[] homeWith = {2, 2, 2, 3};
        for (int at = -1; at < 3; at++) {
            CHECK.due("home by then with one at " + at, foreseenWith(x, at, 4), homeWith[at + 1]);
            x.post(0, at);
            CHECK.due("advise(0, 4), now at " + at, x.advise(0, 4), 2);
        }
        LanternWalk y = Parades.come(Parades.withRoute(1, 1, 1, 1), 100, 0, 1, 2);
        CHECK.due("advise(0, 3), when both corners are as good", y.advise(0, 3), 0);
        CHECK.due("home by then with the one", foreseenWith(y, 0, 3), 2);
        CHECK.due("home by then with the other", foreseenWith(y, 1, 3), 2);
        CHECK.due("home by then with none", foreseenWith(y, -1, 3), 1);
        CHECK.due("advise(0, 4), when all are home anyway", y.advise(0, 4), -1);
        LanternWalk z = Parades.sixAheadOfTheCorner(4);
        CHECK.due("advise(0, 1), when it is more", z.advise(0, 1), 0);
        z.post(1, 0);
        CHECK.due("advise(0, 1), when it is more beside the other", z.advise(0, 1), 0);
        CHECK.due("advise(0, 2), when it is no more", z.advise(0, 2), -1);
        LanternWalk nobody = Parades.withRoute(1, 1, 1, 1);
        CHECK.due("advise(0, 100) without walkers", nobody.advise(0, 100), -1);
    }

    private static int foreseenWith(LanternWalk x, int corner, int steps) {
        x.post(0, corner);
        int home = x.foresee(steps, 0);
        x.post(0, -1);
        return home;
    }

    // ---- promises 19 and 20

    /** Promise 19: "divided by those who walk; 0 if nobody walks" */
    private static void lightIsNoneToAll() {
        CHECK.due("light() of a new one", new LanternWalk().light(), 0.0);
        LanternWalk x = Parades.come(Parades.withRoute(1, 4), 50, 0, 1, 1);
        CHECK.due("light(), when all wait", x.light(), 0.0);
        x.pass(1);
        CHECK.due("light(), when all burn", x.light(), 1.0);
        x.pass(1);
        CHECK.due("light(), when all are home", x.light(), 0.0);
        Parades.come(x, 0, 0, 1, 1);
        x.pass(1);
        CHECK.due("light(), when none burns", x.light(), 0.0);
        x.trim(2, 1);
        CHECK.due("light(), when one of two burns", x.light(), 0.5);
    }

    /** Promise 20: "which wraps around as a 64-bit integer": worked out in numbers without an end. */
    private static void digestWrapsAround() {
        LanternWalk x = small();
        x.teach(0, 0, 99);
        x.setWind(9, 7);
        boolean[] signs = new boolean[2];
        for (int step = 0; step < 30; step++) {
            long digest = x.digest();
            CHECK.due("digest() at " + step, digest, told(x).longValue());
            signs[digest < 0 ? 0 : 1] = true;
            x.pass(1);
        }
        CHECK.due("whether some are below 0", signs[0], true);
        CHECK.due("whether some are not", signs[1], true);
        CHECK.due("whether it came to more than 64 bits", told(x).bitLength() > 64, true);
    }

    private static BigInteger with(BigInteger d, int next) {
        return d.multiply(BigInteger.valueOf(31)).add(BigInteger.valueOf(next));
    }

    private static BigInteger told(LanternWalk x) {
        BigInteger d = BigInteger.valueOf(659);
        for (int what = 0; what <= 10; what++) {
            d = with(d, x.count(what));
        }
        int[] winds = {0, 0, 0, 0, 0, 0, 0, 0, 0, 7};
        for (int wind : winds) {
            d = with(d, wind);
        }
        for (int s = 0; s < 3; s++) {
            for (int what = 0; what <= 5; what++) {
                d = with(d, x.stretch(s, what));
            }
        }
        for (int w = 0; w < 2; w++) {
            for (int what = 0; what <= 8; what++) {
                d = with(d, x.walker(w, what));
            }
            d = with(with(d, x.knows(w, 0)), x.knows(w, 1));
        }
        return with(with(d, x.song(0, 0)), x.song(1, 0));
    }
}
