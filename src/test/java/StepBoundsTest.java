/** The bounds in the six points of a step ("at least", "fewer than", "with none left"): a test for each. */
public final class StepBoundsTest {
    private static final int WICK = 1;
    private static final int LIT = 3;
    private static final int PLACE = 5;
    private static final Check CHECK = new Check();

    public static void main(String[] args) {
        onlyWhatBurnsBurnsDown();
        whoWaitsOrWalksBurnsDown();
        windOfMoreThanFiveTakesOneMore();
        wickIsAtLeastZero();
        withNoneLeftItGoesOut();
        windOfEightBlowsOut();
        fewerThanTwoNeighboursBlowsOut();
        darkNeighboursShieldToo();
        onlyWhoWalksIsBlownOut();
        someWickIsLit();
        lightIsTakenFromBehindPointOne();
        whatIsBlownOutIsLitAgainInTheStep();
        lightIsTakenFromNeighbours();
        onlyWhoWalksIsLit();
        onlyWhoKnowsNothingLearns();
        songsAreTakenFromAheadOfTheStep();
        songsAreTakenFromNeighboursWhoWalk();
        greatestVoiceThenSmallestNumber();
        voiceIsAtLeastTheLength();
        darkGivesThreeMore();
        darkIsLookedAtBehindPointTwo();
        bothLanternsChangeTheVersion();
        versionByTheRemainderOfNinetyNine();
        foremostGoesFirst();
        smallestNumberGoesFirstAtOnePlace();
        darkTakesOneButLeavesOne();
        oneStopsAheadOfTwo();
        aFullPlaceIsLookedAtAheadOfTheCorner();
        cornerStopsWhenSoManyPassed();
        toReachACornerIsNotToStopAtIt();
        homeEndsTheGoing();
        atTheBeginningOfFourOneWalks();
        fewerThanTwoAtZeroStart();
        whoStartsGoesFromTheNextStepOn();
        stepIsOneGreater();
        CHECK.end();
    }

    private static void dueAll(LanternWalk x, String when, int what, int... want) {
        for (int w = 0; w < want.length; w++) {
            CHECK.due("walker(" + w + ", " + what + ") " + when, x.walker(w, what), want[w]);
        }
    }

    /** On a long route with wide corners. */
    private static LanternWalk walking(int wick, int voice, int... paces) {
        return Parades.come(Parades.withRoute(20, 4), wick, voice, paces);
    }

    private static LanternWalk withWicks(int... wicks) {
        LanternWalk x = Parades.withRoute(20, 4);
        for (int wick : wicks) {
            x.come(1, wick, 0);
        }
        return x;
    }

    // ---- 1. Burning

    /** "the wick of each lantern that burns": not of one that was blown out. */
    private static void onlyWhatBurnsBurnsDown() {
        LanternWalk x = walking(50, 0, 1);
        x.setWind(1, 8);
        x.pass(2);
        dueAll(x, "in the wind", WICK, 47);
        dueAll(x, "in the wind", LIT, 0);
        x.pass(3);
        dueAll(x, "blown out", WICK, 47);
        dueAll(x, "blown out", LIT, 0);
    }

    /** "of one who waits or walks": not of one who is home. */
    private static void whoWaitsOrWalksBurnsDown() {
        LanternWalk x = Parades.come(Parades.withRoute(1, 1), 50, 0, 1, 1, 1, 1);
        x.pass(1);
        dueAll(x, "behind 1", 4, 1, 1, 0, 0);
        dueAll(x, "behind 1", WICK, 49, 49, 49, 49);
        x.pass(1);
        dueAll(x, "behind 2", 4, 2, 1, 1, 0);
        dueAll(x, "behind 2", WICK, 48, 48, 48, 48);
        x.pass(1);
        dueAll(x, "behind 3", 4, 2, 2, 1, 1);
        dueAll(x, "behind 3", WICK, 48, 47, 47, 47);
        x.pass(10);
        dueAll(x, "behind 13", 4, 2, 2, 2, 2);
        dueAll(x, "behind 13", WICK, 48, 47, 46, 45);
    }

    /** "and by 1 more, if the wind is more than 5" */
    private static void windOfMoreThanFiveTakesOneMore() {
        for (int wind = 0; wind <= 9; wind++) {
            LanternWalk x = walking(50, 0, 1);
            x.setWind(0, wind);
            x.setWind(1, wind);
            x.pass(1);
            dueAll(x, "waiting in wind " + wind, WICK, wind > 5 ? 48 : 49);
            x.pass(1);
            dueAll(x, "walking in wind " + wind, WICK, wind > 5 ? 46 : 48);
        }
    }

    /** "(at least 0)" */
    private static void wickIsAtLeastZero() {
        LanternWalk x = withWicks(3, 2, 1, 0);
        x.setWind(0, 6);
        x.pass(1);
        dueAll(x, "in wind 6", WICK, 1, 0, 0, 0);
        LanternWalk y = withWicks(2, 1, 0);
        y.pass(1);
        dueAll(y, "in wind 0", WICK, 1, 0, 0);
        y.pass(2);
        dueAll(y, "two steps later", WICK, 0, 0, 0);
    }

    /** "with none left it goes out" */
    private static void withNoneLeftItGoesOut() {
        LanternWalk x = withWicks(2, 1);
        x.pass(1);
        dueAll(x, "in wind 0", LIT, 1, 0);
        x.pass(1);
        dueAll(x, "a step later", LIT, 0, 0);
        LanternWalk y = withWicks(3, 2, 1);
        y.setWind(0, 6);
        y.pass(1);
        dueAll(y, "in wind 6", LIT, 1, 0, 0);
    }

    /** "Then each lantern of one who walks goes out, if the wind is 8 or more" */
    private static void windOfEightBlowsOut() {
        for (int wind = 0; wind <= 9; wind++) {
            LanternWalk x = walking(50, 0, 1);
            x.setWind(1, wind);
            x.pass(2);
            dueAll(x, "in wind " + wind, LIT, wind >= 8 ? 0 : 1);
        }
    }

    /** "and fewer than two neighbours of this one walk": none and one are fewer, two and three are not. */
    private static void fewerThanTwoNeighboursBlowsOut() {
        for (int wind = 8; wind <= 9; wind++) {
            for (int together = 1; together <= 4; together++) {
                LanternWalk x = new LanternWalk();
                x.addStretch(20, 4);
                for (int w = 0; w < together; w++) {
                    x.come(1, 50, 0);
                }
                x.setWind(2, wind);
                x.pass(2);
                CHECK.due("neighbours of " + together, x.walker(0, 6), together - 1);
                x.pass(1);
                CHECK.due("lanterns of " + together + " in wind " + wind, x.count(7), together < 3 ? 0 : together);
            }
        }
    }

    /** The same sentence speaks of neighbours who walk, whether their lanterns burn or not. */
    private static void darkNeighboursShieldToo() {
        LanternWalk x = withWicks(50, 0, 0);
        x.setWind(2, 9);
        x.pass(3);
        dueAll(x, "by two dark neighbours", LIT, 1, 0, 0);
        LanternWalk y = withWicks(50, 0);
        y.setWind(2, 9);
        y.pass(3);
        dueAll(y, "by one dark neighbour", LIT, 0, 0);
    }

    /** "each lantern of one who walks": not of one who waits or is home, nor do these shield. */
    private static void onlyWhoWalksIsBlownOut() {
        LanternWalk x = Parades.come(Parades.withRoute(1, 1), 50, 0, 1, 1, 1, 1);
        x.setWind(2, 9);
        x.pass(2);
        dueAll(x, "ahead of the wind", 4, 2, 1, 1, 0);
        x.pass(1);
        dueAll(x, "in the wind", LIT, 1, 0, 0, 1);
        dueAll(x, "in the wind", WICK, 48, 46, 46, 46);
    }

    // ---- 2. Lighting

    /** "each lantern that does not burn, of one who walks, and has some wick": 1 is some, 0 is none. */
    private static void someWickIsLit() {
        LanternWalk x = withWicks(4, 3, 50);
        x.setWind(1, 8);
        x.pass(2);
        dueAll(x, "behind the wind", WICK, 1, 0, 47);
        dueAll(x, "behind the wind", LIT, 0, 0, 1);
        x.pass(1);
        dueAll(x, "a step later", LIT, 1, 0, 1);
        dueAll(x, "a step later", WICK, 1, 0, 46);
        x.pass(1);
        dueAll(x, "two steps later", LIT, 0, 0, 1);
        dueAll(x, "two steps later", WICK, 0, 0, 45);
    }

    /** "(all by what burned behind step 1)": what burned up in this step, or is lit in it, lights nobody. */
    private static void lightIsTakenFromBehindPointOne() {
        LanternWalk x = Parades.come(Parades.withRoute(20, 4), 50, 0, 3, 1, 1);
        x.setWind(1, 9);
        x.pass(2);
        dueAll(x, "behind the wind", PLACE, 2, 1, 0);
        dueAll(x, "behind the wind", LIT, 0, 0, 1);
        x.pass(1);
        dueAll(x, "a step later, the one at 1 alone is lit", LIT, 0, 1, 1);
        LanternWalk y = withWicks(50, 50, 4);
        y.setWind(1, 9);
        y.pass(2);
        dueAll(y, "behind the wind, with 1 left", WICK, 47, 47, 1);
        dueAll(y, "behind the wind, with 1 left", LIT, 0, 0, 1);
        y.pass(1);
        dueAll(y, "a step later, when it burned up", LIT, 0, 0, 0);
        LanternWalk z = withWicks(50, 50, 5);
        z.setWind(1, 9);
        z.pass(3);
        dueAll(z, "a step later, with 1 left", LIT, 1, 1, 1);
    }

    /** "behind step 1" too: of three in a row the two ends are blown out, and lit by the one between them. */
    private static void whatIsBlownOutIsLitAgainInTheStep() {
        LanternWalk x = walking(50, 0, 2, 1, 1);
        x.setWind(2, 9);
        x.pass(2);
        dueAll(x, "ahead of the wind", PLACE, 2, 1, 0);
        x.pass(1);
        dueAll(x, "in the wind", LIT, 1, 1, 1);
        dueAll(x, "in the wind, going as in the light", PLACE, 4, 2, 1);
        LanternWalk y = Parades.come(Parades.withRoute(20, 4), 50, 0, 2);
        Parades.come(y, 0, 0, 1, 1);
        y.setWind(2, 9);
        y.pass(3);
        dueAll(y, "in the wind, by dark ones", LIT, 0, 0, 0);
    }

    /** "if a neighbour's burns": of one at most a place away, not of one two places away. */
    private static void lightIsTakenFromNeighbours() {
        int[][] paceStepsDifferenceLit = {{1, 2, 0, 1}, {3, 2, 1, 1}, {3, 3, 2, 0}};
        for (int[] p : paceStepsDifferenceLit) {
            // Blown out in the step 1, the one ahead goes on by a pace that is 1 less.
            LanternWalk x = Parades.come(Parades.withRoute(20, 4), 50, 0, p[0]);
            x.come(1, 0, 0);
            x.setWind(1, 9);
            x.pass(p[1]);
            CHECK.due("the difference", x.walker(0, PLACE) - x.walker(1, PLACE), p[2]);
            x.trim(1, 9);
            x.pass(1);
            CHECK.due("whether one ahead by " + p[2] + " is lit", x.walker(0, LIT), p[3]);
        }
    }

    /** "of one who walks": one at home is not lit, and lights nobody. */
    private static void onlyWhoWalksIsLit() {
        LanternWalk x = Parades.come(Parades.withRoute(1, 1), 50, 0, 1, 1);
        x.setWind(1, 9);
        x.pass(2);
        dueAll(x, "behind the wind", 4, 2, 1);
        dueAll(x, "behind the wind", LIT, 0, 0);
        x.trim(1, 9);
        x.pass(1);
        dueAll(x, "behind 3", 4, 2, 2);
        dueAll(x, "behind 3", LIT, 0, 1);
        x.pass(5);
        dueAll(x, "behind 8", LIT, 0, 1);
        x.come(1, 0, 0);
        x.pass(1);
        x.trim(2, 50);
        x.setWind(9, 9);
        x.pass(1);
        dueAll(x, "beside nobody but those at home", LIT, 0, 1, 0);
    }

    // ---- 3. Songs

    /** Two or more at the place 0, or 0 and 1, in the dark, with one song, of which each knows so much. */
    private static LanternWalk singing(int length, int[] voices, int[] versions) {
        LanternWalk x = Parades.withRoute(20, 4);
        x.addSong(length);
        for (int voice : voices) {
            x.come(1, 0, voice);
        }
        x.pass(2);
        for (int w = 0; w < versions.length; w++) {
            x.teach(w, 0, versions[w]);
        }
        return x;
    }

    private static void dueKnown(LanternWalk x, String when, int... want) {
        for (int w = 0; w < want.length; w++) {
            CHECK.due("knows(" + w + ", 0) " + when, x.knows(w, 0), want[w]);
        }
    }

    /** "each one who walks and knows nothing of it": who knows the version 1 keeps it. */
    private static void onlyWhoKnowsNothingLearns() {
        LanternWalk x = singing(1, new int[] {9, 9, 0}, new int[] {1, 99, 0});
        x.pass(1);
        dueKnown(x, "of two who know it and one who did not", 1, 99, 1);
    }

    /** "(all by what was known ahead of the step)": what is learnt in a step is passed on from the next one on. */
    private static void songsAreTakenFromAheadOfTheStep() {
        LanternWalk x = Parades.come(Parades.withRoute(20, 4), 0, 9, 3, 1, 1);
        x.addSong(1);
        x.addSong(1);
        x.pass(2);
        dueAll(x, "behind 2", PLACE, 2, 1, 0);
        x.teach(2, 0, 5);
        x.teach(0, 1, 6);
        x.pass(1);
        dueKnown(x, "one place on", 0, 5, 5);
        CHECK.due("knows(1, 1)", x.knows(1, 1), 6);
        CHECK.due("knows(2, 1)", x.knows(2, 1), 0);
    }

    /** "it from the neighbour who knows it": of one place ahead, not two; and of none who waits or is home. */
    private static void songsAreTakenFromNeighboursWhoWalk() {
        int[][] paceAndKnown = {{1, 5}, {2, 5}, {3, 0}};
        for (int[] p : paceAndKnown) {
            LanternWalk x = Parades.come(Parades.withRoute(20, 4), 100, 9, p[0]);
            x.come(1, 0, 9);
            x.addSong(1);
            x.pass(2);
            x.teach(0, 0, 5);
            x.pass(1);
            CHECK.due("learnt of one ahead by " + (p[0] - 1), x.knows(1, 0), p[1]);
        }
        LanternWalk y = Parades.come(Parades.withRoute(1, 1), 0, 9, 1, 1, 1, 1);
        y.addSong(1);
        y.pass(2);
        dueAll(y, "behind 2", 4, 2, 1, 1, 0);
        y.teach(0, 0, 5);
        y.teach(3, 0, 5);
        y.pass(1);
        dueKnown(y, "of one at home and one who waits", 5, 0, 0, 5);
    }

    /** "and has the greatest voice, of several the one with the smallest number" */
    private static void greatestVoiceThenSmallestNumber() {
        int[] versions = {10, 20, 0, 30};
        int[][] voicesAndLearnt = {{4, 4, 0, 5, 30}, {4, 5, 0, 4, 20}, {5, 4, 0, 4, 10}, {4, 5, 0, 5, 20},
            {5, 5, 0, 4, 10}, {5, 4, 0, 5, 10}, {5, 5, 9, 5, 10}, {0, 0, 0, 0, 10}, {8, 9, 0, 9, 20}};
        for (int[] v : voicesAndLearnt) {
            LanternWalk x = singing(3, new int[] {v[0], v[1], v[2], v[3]}, versions);
            x.pass(1);
            String voices = "by voices " + v[0] + ", " + v[1] + ", " + v[3];
            dueKnown(x, voices, 10, 20, v[4], 30);
        }
        LanternWalk y = singing(1, new int[] {9, 5, 0, 9}, new int[] {0, 20, 0, 0});
        y.pass(1);
        dueKnown(y, "by a greater voice that knows nothing", 20, 20, 20, 20);
    }

    /** One who knows the version 5, and one who learns, both at the place 0 in the step 1. */
    private static int learnt(int wickOfSinger, int wickOfLearner, int voice, int length, int version) {
        LanternWalk x = Parades.withRoute(20, 4);
        x.addSong(length);
        x.come(1, wickOfSinger, voice);
        x.come(1, wickOfLearner, 0);
        x.teach(0, 0, version);
        x.pass(2);
        return x.knows(1, 0);
    }

    /** "if this voice .. is at least its length" */
    private static void voiceIsAtLeastTheLength() {
        for (int length = 1; length <= 9; length++) {
            CHECK.due("in the light by a voice " + (length - 1), learnt(9, 9, length - 1, length, 5), 0);
            CHECK.due("in the light by a voice " + length, learnt(9, 9, length, length, 5), 6);
        }
    }

    /** "and 3 more, if the lantern of the one who learns does not burn" */
    private static void darkGivesThreeMore() {
        for (int length = 4; length <= 9; length++) {
            CHECK.due("in the dark by a voice " + (length - 4), learnt(9, 0, length - 4, length, 5), 0);
            CHECK.due("in the dark by a voice " + (length - 3), learnt(9, 0, length - 3, length, 5), 5);
            CHECK.due("of the dark by a voice " + (length - 1), learnt(0, 9, length - 1, length, 5), 0);
            CHECK.due("of the dark by a voice " + length, learnt(0, 9, length, length, 5), 5);
        }
        CHECK.due("in the dark by a voice 0 of length 3", learnt(9, 0, 0, 3, 5), 5);
    }

    /** "behind step 2": who burned up in this step is in the dark, who was lit in it is not. */
    private static void darkIsLookedAtBehindPointTwo() {
        CHECK.due("by one whose wick ends in this step", learnt(9, 2, 3, 6, 5), 5);
        CHECK.due("by one whose wick ends in the next", learnt(9, 3, 3, 6, 5), 0);
        CHECK.due("of one whose wick ends in this step", learnt(2, 9, 3, 3, 5), 5);
        CHECK.due("of one whose wick ends in the next", learnt(3, 9, 3, 3, 5), 6);
        LanternWalk x = Parades.come(Parades.withRoute(20, 4), 50, 3, 1, 1, 1);
        x.setWind(1, 9);
        x.addSong(4);
        x.addSong(3);
        x.pass(2);
        dueAll(x, "behind the wind", LIT, 0, 0, 1);
        x.teach(2, 0, 5);
        x.teach(2, 1, 5);
        x.pass(1);
        dueKnown(x, "of length 4 by those who are lit", 0, 0, 5);
        CHECK.due("of length 3 by one who is lit, changed", x.knows(0, 1), 6);
    }

    /** "but, if both lanterns burn then" */
    private static void bothLanternsChangeTheVersion() {
        CHECK.due("both burn", learnt(9, 9, 9, 1, 5), 6);
        CHECK.due("the learner's burns", learnt(0, 9, 9, 1, 5), 5);
        CHECK.due("the singer's burns", learnt(9, 0, 9, 1, 5), 5);
        CHECK.due("none burns", learnt(0, 0, 9, 1, 5), 5);
    }

    /** "this version by the remainder of 99, and 1" */
    private static void versionByTheRemainderOfNinetyNine() {
        for (int version = 1; version <= 98; version++) {
            CHECK.due(version + " in the light", learnt(9, 9, 9, 1, version), version + 1);
        }
        CHECK.due("99 in the light", learnt(9, 9, 9, 1, 99), 1);
        CHECK.due("99 in the dark", learnt(9, 0, 9, 1, 99), 99);
        CHECK.due("1 in the dark", learnt(9, 0, 9, 1, 1), 1);
    }

    // ---- 4. Going

    /** "in the order from the foremost (the greatest place ..) to the last" */
    private static void foremostGoesFirst() {
        LanternWalk x = Parades.withRoute(3, 1, 10, 4);
        x.come(2, 0, 0);
        x.come(2, 100, 0);
        x.pass(2);
        dueAll(x, "behind 2", PLACE, 1, 2);
        x.trim(0, 100);
        x.pass(1);
        dueAll(x, "behind 3, the greater number went first", PLACE, 2, 4);
        CHECK.due("stopped", x.stretch(0, 5), 1);
    }

    /** "of those at one place the smallest number" */
    private static void smallestNumberGoesFirstAtOnePlace() {
        LanternWalk x = Parades.come(Parades.withRoute(1, 1, 10, 4), 100, 0, 1, 3);
        x.pass(2);
        dueAll(x, "behind 2", PLACE, 1, 0);
        LanternWalk y = Parades.come(Parades.withRoute(1, 1, 10, 4), 100, 0, 3, 1);
        y.pass(2);
        dueAll(y, "behind 2", PLACE, 3, 0);
    }

    /** "as many as the pace, but 1 less (at least 1), if the own lantern does not burn" */
    private static void darkTakesOneButLeavesOne() {
        int[][] paceWickPlace = {{1, 3, 1}, {2, 3, 2}, {3, 3, 3}, {1, 2, 1}, {2, 2, 1}, {3, 2, 2}, {1, 0, 1}};
        for (int[] p : paceWickPlace) {
            LanternWalk x = walking(p[1], 0, p[0]);
            x.pass(2);
            String by = " by pace " + p[0] + " and wick " + p[1];
            CHECK.due("place" + by, x.walker(0, PLACE), p[2]);
            CHECK.due("steps in the dark" + by, x.walker(0, 7), p[1] == 3 ? 0 : 1);
        }
        LanternWalk lit = Parades.come(Parades.withRoute(20, 4), 0, 0, 2);
        lit.come(1, 50, 0);
        lit.pass(2);
        dueAll(lit, "by a neighbour's light, without wick", PLACE, 1, 1);
    }

    /** "one stops ahead of a place where two are": not of one where one is. */
    private static void oneStopsAheadOfTwo() {
        LanternWalk x = walking(100, 0, 1, 1, 3);
        x.pass(2);
        dueAll(x, "behind 2", PLACE, 1, 1, 0);
        x.pass(1);
        dueAll(x, "behind 3, stopped by two", PLACE, 2, 2, 1);
        LanternWalk y = walking(100, 0, 1, 3, 3);
        y.pass(2);
        dueAll(y, "of y behind 2", PLACE, 1, 3, 0);
        y.pass(1);
        dueAll(y, "of y behind 3, past one", PLACE, 2, 6, 3);
        LanternWalk z = walking(100, 0, 1, 2, 3);
        z.pass(2);
        z.pass(1);
        dueAll(z, "of z behind 3, beside one and past it", PLACE, 2, 4, 3);
    }

    /** "one stops ahead of a place where two are; otherwise, to go beyond ..": a full place is no stop at a corner. */
    private static void aFullPlaceIsLookedAtAheadOfTheCorner() {
        LanternWalk x = Parades.come(Parades.withRoute(1, 4, 1, 1, 1, 1), 100, 0, 1, 1, 1, 1);
        x.pass(2);
        dueAll(x, "behind 2", PLACE, 1, 1, 0, 0);
        x.pass(1);
        // One passed the corner 1, the other had to stop at it; so one place is left at 1 for two.
        dueAll(x, "behind 3", PLACE, 2, 1, 1, 0);
        CHECK.due("passed the corner 0", x.stretch(0, 4), 3);
        CHECK.due("stopped at the corner 0 by a full place", x.stretch(0, 5), 0);
        CHECK.due("stopped at the corner 1 by its bound", x.stretch(1, 5), 1);
        // Two passed the corner 0, as many as it lets, and stand behind it: it is their place that stops the third.
        LanternWalk y = Parades.come(Parades.withRoute(2, 2, 9, 4), 100, 0, 1, 1, 3);
        y.pass(3);
        dueAll(y, "of y behind 3", PLACE, 2, 2, 1);
        CHECK.due("passed the corner 0 of y", y.stretch(0, 4), 2);
        CHECK.due("stopped at the corner 0 of y", y.stretch(0, 5), 0);
    }

    /** "at most as many as it lets through do so in a step; if so many have, one stops there (had to stop at it)" */
    private static void cornerStopsWhenSoManyPassed() {
        // Of six, those who come to the corner behind the ones who passed: as far as there is room at its place.
        int[][] letsPassedStopped = {{1, 1, 2}, {2, 2, 2}, {3, 3, 2}, {4, 4, 2}};
        for (int[] l : letsPassedStopped) {
            LanternWalk x = Parades.sixAheadOfTheCorner(l[0]);
            CHECK.due("stopped ahead of the step", x.stretch(0, 5), 0);
            x.pass(1);
            CHECK.due("passed by " + l[0], x.stretch(0, 4), l[1]);
            CHECK.due("stopped by " + l[0], x.stretch(0, 5), l[2]);
        }
        LanternWalk five = Parades.sixAheadOfTheCorner(4);
        five.post(1, 0);
        five.pass(1);
        CHECK.due("stopped by 5", five.stretch(0, 5), 1);
        LanternWalk six = Parades.sixAheadOfTheCorner(4);
        six.post(1, 0);
        six.post(0, 0);
        six.pass(1);
        CHECK.due("stopped by 6", six.stretch(0, 5), 0);
    }

    /** "one stops there (had to stop at it)": not one whose pace just led to the last place. */
    private static void toReachACornerIsNotToStopAtIt() {
        int[][] paceStopped = {{1, 0}, {2, 1}, {3, 1}};
        for (int[] p : paceStopped) {
            LanternWalk x = Parades.come(Parades.withRoute(2, 1, 10, 1), 100, 0, 1, 1, p[0]);
            x.pass(3);
            dueAll(x, "behind 3", PLACE, 2, 1, 1);
            CHECK.due("stopped, of pace " + p[0], x.stretch(0, 5), 1 + p[1]);
        }
    }

    /** "Beyond the last corner one is home": what is left of the pace leads nowhere. */
    private static void homeEndsTheGoing() {
        int[] paces = {1, 2, 3};
        for (int pace : paces) {
            LanternWalk x = Parades.come(Parades.withRoute(1, 4), 100, 0, pace, pace);
            x.pass(1);
            CHECK.due("pass(1) of pace " + pace, x.pass(1), 2);
            CHECK.due("passed the corner by pace " + pace, x.stretch(0, 4), 2);
            dueAll(x, "by pace " + pace, PLACE, -1, -1);
            dueAll(x, "by pace " + pace, 8, 1, 1);
        }
    }

    /** Promise 10: "steps in the dark: those in which this one walked at the beginning of 4, going on or not" */
    private static void atTheBeginningOfFourOneWalks() {
        LanternWalk x = Parades.come(Parades.withRoute(1, 1), 0, 0, 1, 1, 1);
        int[][] dark = {{0, 0, 0}, {1, 1, 0}, {1, 2, 1}, {1, 2, 2}, {1, 2, 2}};
        for (int[] want : dark) {
            x.pass(1);
            dueAll(x, "behind " + x.count(0), 7, want);
        }
    }

    // ---- 5. Starting, 6. the step

    /** "as long as at the place 0 there are fewer than two, one who waits walks there" */
    private static void fewerThanTwoAtZeroStart() {
        LanternWalk x = Parades.come(Parades.withRoute(1, 1, 1, 4), 100, 0, 1, 1, 1, 1, 1);
        x.pass(1);
        dueAll(x, "with none at 0, two start by numbers", 4, 1, 1, 0, 0, 0);
        x.pass(1);
        dueAll(x, "with one at 0, one starts", 4, 1, 1, 1, 0, 0);
        dueAll(x, "with one at 0, one starts", PLACE, 1, 0, 0, -1, -1);
        // Two who stand at 0 ahead of point 5 no run can show: the first at each place always goes on in point 4.
        x.pass(1);
        dueAll(x, "with one at 0 again, one starts", PLACE, -1, 1, 0, 0, -1);
    }

    /** Point 5 is behind 4: who starts stands at the place 0 until the next step. */
    private static void whoStartsGoesFromTheNextStepOn() {
        LanternWalk x = walking(100, 0, 3);
        x.pass(1);
        dueAll(x, "behind 1", PLACE, 0);
        x.pass(1);
        dueAll(x, "behind 2", PLACE, 3);
    }

    /** "The step is 1 greater.": behind the coming home, which is told by the step that goes on. */
    private static void stepIsOneGreater() {
        LanternWalk x = Parades.come(Parades.withRoute(1, 1), 100, 0, 1, 1, 1);
        for (int step = 1; step <= 5; step++) {
            x.pass(1);
            CHECK.due("count(0)", x.count(0), step);
        }
        dueAll(x, "behind 5", 8, 1, 2, 3);
    }
}
