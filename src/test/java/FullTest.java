/** The fullest parade, and 512 of the dearest calls: none throws, none changes anything, and they end soon. */
public final class FullTest {
    private static final int CALLS = 512;
    private static final Check CHECK = new Check();

    public static void main(String[] args) {
        limitsOfNumbers();
        dearestCalls();
        CHECK.end();
    }

    private static LanternWalk full() {
        LanternWalk x = new LanternWalk();
        for (int s = 0; s < 10; s++) {
            x.addStretch(20, 1);
            x.setWind(s, s);
        }
        for (int w = 0; w < 20; w++) {
            x.come(1 + w % 3, 200, w % 10);
        }
        for (int s = 0; s < 6; s++) {
            x.addSong(9 - s);
            x.teach(s, s, 99 - s);
        }
        return x;
    }

    private static void limitsOfNumbers() {
        LanternWalk x = full();
        x.post(0, 9);
        x.post(1, 9);
        CHECK.due("stretch(9, 1)", x.stretch(9, 1), 3);
        CHECK.due("stretch(9, 2)", x.stretch(9, 2), 180);
        CHECK.due("count(2)", x.count(2), 200);
        int home = 0;
        for (int i = 0; i < 440; i++) {
            home += x.pass(200);
        }
        CHECK.due("came home", home, 20);
        CHECK.due("the step", x.count(0), 88_000);
        CHECK.due("passed the last corner", x.stretch(9, 4), 20);
    }

    private static void dearestCalls() {
        LanternWalk x = full();
        long digest = x.digest();
        for (int i = 0; i < CALLS; i++) {
            x.advise(i % 2, 100);
        }
        CHECK.due("digest() behind " + CALLS + " calls of advise", x.digest(), digest);
    }
}
