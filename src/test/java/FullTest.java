/** The fullest parade, and 512 of the dearest calls: none throws, none changes anything, and they end soon. */
public final class FullTest {
    private static final int CALLS = 512;
    private static final Check CHECK = new Check();

    public static void main(String[] args) {
        limitsOfNumbers();
        dearestCalls();
        fullParadeIsToldAsByTheModel();
        lastOfAllCalls();
        CHECK.end();
    }

    private static LanternWalk full() {
        LanternWalk x = new LanternWalk();
        for (int s = 0; s < 10; s++) {
            x.addStretch(20, 1);
            x.setWind(s, s);
        }
        for (int w = 0; w < 20; w++) {
            x.come(1 + w % 3, 200, w % 10);
        }
        for (int s = 0; s < 6; s++) {
            x.addSong(9 - s);
            x.teach(s, s, 99 - s);
        }
        return x;
    }

    private static void limitsOfNumbers() {
        LanternWalk x = full();
        x.post(0, 9);
        x.post(1, 9);
        CHECK.due("stretch(9, 1)", x.stretch(9, 1), 3);
        CHECK.due("stretch(9, 2)", x.stretch(9, 2), 180);
        CHECK.due("count(2)", x.count(2), 200);
        int home = 0;
        for (int i = 0; i < 440; i++) {
            home += x.pass(200);
        }
        CHECK.due("came home", home, 20);
        CHECK.due("the step", x.count(0), 88_000);
        CHECK.due("passed the last corner", x.stretch(9, 4), 20);
    }

    private static void dearestCalls() {
        LanternWalk x = full();
        long digest = x.digest();
        for (int i = 0; i < CALLS; i++) {
            x.advise(i % 2, 100);
        }
        CHECK.due("digest() behind " + CALLS + " calls of advise", x.digest(), digest);
    }

    private static Model fullModel() {
        Model m = new Model();
        for (int s = 0; s < 10; s++) {
            m.addStretch(20, 1);
            m.setWind(s, s);
        }
        for (int w = 0; w < 20; w++) {
            m.come(1 + w % 3, 200, w % 10);
        }
        for (int s = 0; s < 6; s++) {
            m.addSong(9 - s);
            m.teach(s, s, 99 - s);
        }
        return m;
    }

    /** All that there is of the most stretches, walkers and songs, from the start until all are home. */
    private static void fullParadeIsToldAsByTheModel() {
        LanternWalk x = full();
        Model m = fullModel();
        for (int steps = 0; steps < 240; steps += 20) {
            CHECK.due("digest() behind " + steps, x.digest(), m.digest());
            for (int s = 0; s < 6; s++) {
                for (int what = 1; what <= 3; what++) {
                    CHECK.due("song(" + s + ", " + what + ") behind " + steps, x.song(s, what), m.song(s, what));
                }
            }
            CHECK.due("pass(20) behind " + steps, x.pass(20), m.pass(20));
        }
        CHECK.due("who is home", x.count(6), 20);
    }

    /** "An object is used for at most 512 calls": the last of them still answers as the first. */
    private static void lastOfAllCalls() {
        LanternWalk x = new LanternWalk();
        x.addStretch(1, 1);
        x.come(1, 200, 9);
        for (int call = 3; call < CALLS; call++) {
            x.pass(200);
        }
        CHECK.due("count(0), the call " + CALLS, x.count(0), 101_800);
    }
}
