/** The bounds that "Terms" tells of the route, the wind, the walkers and the songs: a test for each sentence. */
public final class TermsBoundsTest {
    private static final Class<IllegalArgumentException> ARGUMENT = IllegalArgumentException.class;
    private static final Class<IllegalStateException> STATE = IllegalStateException.class;
    private static final Class<IndexOutOfBoundsException> INDEX = IndexOutOfBoundsException.class;
    private static final Check CHECK = new Check();

    public static void main(String[] args) {
        timeIsToldFromZero();
        atMostTenStretches();
        stretchIsOneToTwentyLong();
        cornerIsBehindTheLastPlace();
        cornerLetsThroughAsTold();
        stewardsAreTwo();
        homeIsBehindTheLastCorner();
        windIsToldForTenSteps();
        windIsTakenByTheRemainder();
        atMostTwentyWalkers();
        walkerHasPaceWickAndVoice();
        lanternBurnsAtFirstWithSomeWick();
        walkerWaitsWalksOrIsHome();
        atMostTwoAtAPlace();
        neighboursAreAtMostOnePlaceApart();
        neighboursBothWalk();
        atMostSixSongs();
        songIsOneToNineLong();
        versionIsOneToNinetyNine();
        CHECK.end();
    }

    /** "Time is told in steps, from 0." */
    private static void timeIsToldFromZero() {
        LanternWalk x = Parades.withRoute(1, 1);
        CHECK.due("count(0) at first", x.count(0), 0);
        x.pass(1);
        CHECK.due("count(0) behind a step", x.count(0), 1);
    }

    /** "It is a row of at most 10 stretches, numbered from 0" */
    private static void atMostTenStretches() {
        LanternWalk x = new LanternWalk();
        for (int number = 0; number < 10; number++) {
            CHECK.due("addStretch with " + number + " there", x.addStretch(1, 1), number);
        }
        CHECK.dueThrow("addStretch with 10 there", x, STATE, () -> x.addStretch(1, 1));
        CHECK.due("stretch(9, 0)", x.stretch(9, 0), 1);
        CHECK.dueThrow("stretch(10, 0)", x, INDEX, () -> x.stretch(10, 0));
    }

    /** "each is 1 to 20 places long" */
    private static void stretchIsOneToTwentyLong() {
        CHECK.dueRange("the length", 1, 20, ARGUMENT, LanternWalk::new, (x, n) -> x.addStretch(n, 1));
        LanternWalk x = Parades.withRoute(1, 1, 20, 1, 1, 1);
        CHECK.due("places", x.count(2), 22);
    }

    /** "a corner is behind the last place of its stretch": to come to this place passes no corner. */
    private static void cornerIsBehindTheLastPlace() {
        int[] lengths = {1, 2, 20};
        for (int length : lengths) {
            LanternWalk x = Parades.come(Parades.withRoute(length, 1, 1, 1), 0, 0, 1);
            x.pass(length);
            CHECK.due("place behind " + length + " steps", x.walker(0, 5), length - 1);
            CHECK.due("passed the corner behind " + length + " steps", x.stretch(0, 4), 0);
            CHECK.due("on stretch 0 behind " + length + " steps", x.stretch(0, 3), 1);
            CHECK.due("on stretch 1 behind " + length + " steps", x.stretch(1, 3), 0);
            x.pass(1);
            CHECK.due("place a step later", x.walker(0, 5), length);
            CHECK.due("passed the corner a step later", x.stretch(0, 4), 1);
            CHECK.due("on stretch 0 a step later", x.stretch(0, 3), 0);
            CHECK.due("on stretch 1 a step later", x.stretch(1, 3), 1);
        }
    }

    /** "which lets 1 to 4 walkers through in a step, as it was told, and one more for each steward there" */
    private static void cornerLetsThroughAsTold() {
        CHECK.dueRange("what it lets through", 1, 4, ARGUMENT, LanternWalk::new, (x, n) -> x.addStretch(1, n));
        for (int lets = 1; lets <= 4; lets++) {
            for (int stewards = 0; stewards <= 2; stewards++) {
                LanternWalk x = Parades.sixAheadOfTheCorner(lets);
                for (int steward = 0; steward < stewards; steward++) {
                    x.post(steward, 0);
                }
                String when = " by " + lets + " and " + stewards + " stewards";
                CHECK.due("stretch(0, 1)" + when, x.stretch(0, 1), lets + stewards);
                CHECK.due("pass(1)" + when, x.pass(1), lets + stewards);
                CHECK.due("passed" + when, x.stretch(0, 4), lets + stewards);
            }
        }
    }

    /** "There are at most 2 stewards, each at a corner or at none." */
    private static void stewardsAreTwo() {
        CHECK.dueRange("the steward", 0, 1, INDEX, () -> Parades.withRoute(1, 1), (x, n) -> x.post(n, 0));
        LanternWalk x = Parades.withRoute(1, 1, 1, 1);
        for (int steward = 0; steward < 2; steward++) {
            CHECK.due("where the steward " + steward + " is at first", x.post(steward, 1), -1);
        }
        CHECK.due("stretch(1, 1) with both", x.stretch(1, 1), 3);
        x.post(0, 0);
        CHECK.due("stretch(1, 1), when one went to another", x.stretch(1, 1), 2);
        x.post(1, -1);
        CHECK.due("stretch(1, 1), when the other went to none", x.stretch(1, 1), 1);
    }

    /** "Behind the last corner is home." */
    private static void homeIsBehindTheLastCorner() {
        LanternWalk x = Parades.come(Parades.withLongestRoute(1), 0, 0, 1);
        x.pass(200);
        CHECK.due("place behind 200 steps", x.walker(0, 5), 199);
        CHECK.due("whether it is home", x.walker(0, 4), 1);
        CHECK.due("pass(1)", x.pass(1), 1);
        CHECK.due("place behind 201 steps", x.walker(0, 5), -1);
        CHECK.due("whether it is home", x.walker(0, 4), 2);
        CHECK.due("passed the last corner", x.stretch(9, 4), 1);
    }

    /** "A table tells the wind of each of 10 steps, 0 to 9 (0, at first)" */
    private static void windIsToldForTenSteps() {
        CHECK.dueRange("the step", 0, 9, INDEX, LanternWalk::new, (x, n) -> x.setWind(n, 9));
        CHECK.dueRange("the wind", 0, 9, ARGUMENT, LanternWalk::new, (x, n) -> x.setWind(9, n));
        LanternWalk x = new LanternWalk();
        for (int step = 0; step < 10; step++) {
            CHECK.due("the wind of " + step + " at first", x.setWind(step, 9), 0);
        }
        for (int step = 0; step < 10; step++) {
            CHECK.due("the wind of " + step + " then", x.setWind(step, 0), 9);
        }
    }

    /** "in the step t it is that with the number t by the remainder of 10" */
    private static void windIsTakenByTheRemainder() {
        int[] steps = {0, 1, 8, 9, 10, 11, 18, 19, 20, 21, 98, 99, 100, 101};
        for (int windy = 0; windy < 10; windy++) {
            LanternWalk x = Parades.come(Parades.withLongestRoute(1), 200, 0, 1);
            x.setWind(windy, 6);
            for (int step : steps) {
                if (step > x.count(0)) {
                    x.pass(step - x.count(0));
                }
                int before = x.walker(0, 1);
                x.pass(1);
                int loss = step % 10 == windy ? 2 : 1;
                CHECK.due("loss in the step " + step + " by wind at " + windy, before - x.walker(0, 1), loss);
            }
        }
    }

    /** "There are at most 20, numbered from 0 in the order of their coming" */
    private static void atMostTwentyWalkers() {
        LanternWalk x = new LanternWalk();
        for (int number = 0; number < 20; number++) {
            CHECK.due("come with " + number + " there", x.come(1, 10 * number, 0), number);
        }
        CHECK.dueThrow("come with 20 there", x, STATE, () -> x.come(1, 0, 0));
        for (int number = 0; number < 20; number++) {
            CHECK.due("wick of " + number, x.walker(number, 1), 10 * number);
        }
        CHECK.dueThrow("walker(20, 0)", x, INDEX, () -> x.walker(20, 0));
    }

    /** "each has a pace, 1 to 3, a wick, 0 to 200, a voice, 0 to 9" */
    private static void walkerHasPaceWickAndVoice() {
        CHECK.dueRange("the pace", 1, 3, ARGUMENT, LanternWalk::new, (x, n) -> x.come(n, 0, 0));
        CHECK.dueRange("the wick", 0, 200, ARGUMENT, LanternWalk::new, (x, n) -> x.come(1, n, 0));
        CHECK.dueRange("the voice", 0, 9, ARGUMENT, LanternWalk::new, (x, n) -> x.come(1, 0, n));
        LanternWalk x = new LanternWalk();
        x.come(1, 0, 0);
        x.come(3, 200, 9);
        int[][] want = {{1, 0, 0}, {3, 200, 9}};
        for (int w = 0; w < 2; w++) {
            for (int what = 0; what < 3; what++) {
                CHECK.due("walker(" + w + ", " + what + ")", x.walker(w, what), want[w][what]);
            }
        }
    }

    /** "a lantern that burns (at first, if there is some wick) or not" */
    private static void lanternBurnsAtFirstWithSomeWick() {
        int[] wicks = {0, 1, 200};
        for (int wick : wicks) {
            LanternWalk x = Parades.come(new LanternWalk(), wick, 0, 1);
            CHECK.due("the lantern at first by a wick of " + wick, x.walker(0, 3), wick == 0 ? 0 : 1);
        }
    }

    /** "One waits (at first), walks at a place, or is home" */
    private static void walkerWaitsWalksOrIsHome() {
        LanternWalk x = Parades.come(Parades.withRoute(1, 1), 0, 0, 1);
        int[][] stageAndPlace = {{0, -1}, {1, 0}, {2, -1}, {2, -1}};
        for (int step = 0; step < stageAndPlace.length; step++) {
            CHECK.due("stage behind " + step, x.walker(0, 4), stageAndPlace[step][0]);
            CHECK.due("place behind " + step, x.walker(0, 5), stageAndPlace[step][1]);
            x.pass(1);
        }
    }

    /** "at each place there are at most 2 walkers" */
    private static void atMostTwoAtAPlace() {
        LanternWalk x = Parades.withRoute(2, 4, 3, 1);
        for (int w = 0; w < 20; w++) {
            x.come(1 + w % 3, 100, 0);
        }
        int most = 0;
        for (int step = 0; step < 12; step++) {
            x.pass(1);
            most = Math.max(most, mostAtAPlace(x));
        }
        CHECK.due("the most at a place", most, 2);
        CHECK.due("walkers in a full jam", x.count(5), 10);
    }

    private static int mostAtAPlace(LanternWalk x) {
        int[] at = new int[x.count(2)];
        int most = 0;
        for (int w = 0; w < x.count(3); w++) {
            int place = x.walker(w, 5);
            if (place >= 0) {
                at[place]++;
                most = Math.max(most, at[place]);
            }
        }
        return most;
    }

    /** "of whose places the difference is at most 1" */
    private static void neighboursAreAtMostOnePlaceApart() {
        int[][] paceAndNeighbours = {{1, 1}, {2, 1}, {3, 0}};
        for (int[] p : paceAndNeighbours) {
            LanternWalk x = Parades.come(Parades.withRoute(20, 4), 100, 0, p[0], 1);
            x.pass(1);
            CHECK.due("neighbours of 0 at one place", x.walker(0, 6), 1);
            x.pass(1);
            CHECK.due("the difference", x.walker(0, 5) - x.walker(1, 5), p[0] - 1);
            CHECK.due("neighbours of the one ahead by " + (p[0] - 1), x.walker(0, 6), p[1]);
            CHECK.due("neighbours of the one behind by " + (p[0] - 1), x.walker(1, 6), p[1]);
        }
        LanternWalk full = Parades.sixAheadOfTheCorner(1);
        int[] want = {3, 3, 5, 5, 3, 3};
        for (int w = 0; w < want.length; w++) {
            CHECK.due("neighbours of " + w + " of six, and not oneself", full.walker(w, 6), want[w]);
        }
    }

    /** "Neighbours are two walkers who walk": none of those who wait, whose place is -1, or who are home. */
    private static void neighboursBothWalk() {
        LanternWalk x = Parades.come(Parades.withRoute(1, 1), 100, 0, 1, 1, 1, 1);
        for (int w = 0; w < 4; w++) {
            CHECK.due("neighbours of " + w + ", when all wait", x.walker(w, 6), 0);
        }
        x.pass(1);
        int[] atFirst = {1, 1, 0, 0};
        for (int w = 0; w < 4; w++) {
            CHECK.due("neighbours of " + w + ", when two wait", x.walker(w, 6), atFirst[w]);
        }
        x.pass(2);
        int[] later = {0, 0, 1, 1};
        for (int w = 0; w < 4; w++) {
            CHECK.due("neighbours of " + w + ", when two are home", x.walker(w, 6), later[w]);
        }
    }

    /** "Songs. There are at most 6, numbered likewise" */
    private static void atMostSixSongs() {
        LanternWalk x = new LanternWalk();
        for (int number = 0; number < 6; number++) {
            CHECK.due("addSong with " + number + " there", x.addSong(number + 1), number);
        }
        CHECK.dueThrow("addSong with 6 there", x, STATE, () -> x.addSong(1));
        for (int number = 0; number < 6; number++) {
            CHECK.due("length of " + number, x.song(number, 0), number + 1);
        }
        CHECK.dueThrow("song(6, 0)", x, INDEX, () -> x.song(6, 0));
    }

    /** "each has a length, 1 to 9" */
    private static void songIsOneToNineLong() {
        CHECK.dueRange("the length of a song", 1, 9, ARGUMENT, LanternWalk::new, (x, n) -> x.addSong(n));
    }

    private static LanternWalk withASong() {
        LanternWalk x = Parades.come(new LanternWalk(), 0, 0, 1, 1);
        x.addSong(1);
        return x;
    }

    /** "each walker knows of it nothing (0, at first), or a version, 1 to 99" */
    private static void versionIsOneToNinetyNine() {
        CHECK.dueRange("the version, 0 for nothing", 0, 99, ARGUMENT, TermsBoundsTest::withASong,
                (x, n) -> x.teach(0, 0, n));
        int[] versions = {1, 99, 0};
        LanternWalk x = withASong();
        CHECK.due("what is known at first", x.knows(0, 0), 0);
        for (int version : versions) {
            x.teach(0, 0, version);
            CHECK.due("what is known then", x.knows(0, 0), version);
            CHECK.due("how many know it", x.song(0, 1), version == 0 ? 0 : 1);
            CHECK.due("what another one knows", x.knows(1, 0), 0);
        }
    }
}
