/** Parades that several tests set out from. */
final class Parades {
    private Parades() {
    }

    static LanternWalk withRoute(int... lengthsAndLets) {
        LanternWalk x = new LanternWalk();
        for (int i = 0; i + 1 < lengthsAndLets.length; i += 2) {
            x.addStretch(lengthsAndLets[i], lengthsAndLets[i + 1]);
        }
        return x;
    }

    /** The longest route, 200 places, whose corners all let so many through. */
    static LanternWalk withLongestRoute(int lets) {
        LanternWalk x = new LanternWalk();
        for (int s = 0; s < 10; s++) {
            x.addStretch(20, lets);
        }
        return x;
    }

    /** These come with this wick and voice, one of each pace. */
    static LanternWalk come(LanternWalk x, int wick, int voice, int... paces) {
        for (int pace : paces) {
            x.come(pace, wick, voice);
        }
        return x;
    }

    /** At 2, 1 and 0, two at each, the hindmost of pace 3: all six can pass the corner in the step 3. */
    static LanternWalk sixAheadOfTheCorner(int lets) {
        return passed(come(withRoute(3, lets), 100, 0, 1, 1, 2, 2, 3, 3), 3);
    }

    static LanternWalk passed(LanternWalk x, int steps) {
        x.pass(steps);
        return x;
    }
}
