/** Promises 14, 19 and 20: count, light, digest. */
public final class CountTest {
    private static final Check CHECK = new Check();

    public static void main(String[] args) {
        count();
        countOfWrongNumbers();
        light();
        digestOfANewOne();
        digest();
        CHECK.end();
    }

    private static void dueCounts(LanternWalk x, String when, int... want) {
        for (int what = 0; what < want.length; what++) {
            CHECK.due("count(" + what + ") " + when, x.count(what), want[what]);
        }
    }

    private static void count() {
        LanternWalk x = new LanternWalk();
        x.addStretch(4, 1);
        x.addStretch(3, 2);
        x.come(3, 50, 0);
        x.come(1, 0, 0);
        x.come(2, 50, 0);
        x.come(1, 50, 0);
        x.addSong(1);
        dueCounts(x, "at first", 0, 2, 7, 4, 4, 0, 0, 0, 1, -1, 0);
        x.pass(1);
        dueCounts(x, "behind 1", 1, 2, 7, 4, 2, 2, 0, 1, 1, 0, 0);
        x.pass(1);
        dueCounts(x, "behind 2", 2, 2, 7, 4, 0, 4, 0, 3, 1, 3, 3);
        x.pass(1);
        dueCounts(x, "behind 3", 3, 2, 7, 4, 0, 4, 0, 3, 1, 6, 5);
        x.pass(1);
        dueCounts(x, "behind 4", 4, 2, 7, 4, 0, 3, 1, 2, 1, 4, 2);
        x.pass(20);
        dueCounts(x, "behind 24", 24, 2, 7, 4, 0, 0, 4, 0, 1, -1, 0);
        x.come(1, 9, 9);
        dueCounts(x, "when one more came", 24, 2, 7, 5, 1, 0, 4, 0, 1, -1, 0);
    }

    private static void countOfWrongNumbers() {
        LanternWalk x = new LanternWalk();
        int[] bad = {-1, 11, Integer.MIN_VALUE, Integer.MAX_VALUE};
        for (int b : bad) {
            CHECK.dueThrow("count(" + b + ")", x, IndexOutOfBoundsException.class, () -> x.count(b));
        }
    }

    private static void light() {
        LanternWalk x = new LanternWalk();
        x.addStretch(5, 4);
        x.come(1, 50, 0);
        CHECK.due("light() of one who waits", x.light(), 0.0);
        x.pass(1);
        CHECK.due("light() of one", x.light(), 1.0);
        x.come(1, 0, 0);
        x.come(1, 0, 0);
        x.pass(1);
        CHECK.due("light() of one in three", x.light(), 1.0 / 3.0);
        x.trim(1, 40);
        CHECK.due("light() of two in three", x.light(), 2.0 / 3.0);
        x.pass(4);
        CHECK.due("stage of the first", x.walker(0, 4), 2);
        CHECK.due("light() of one in two", x.light(), 0.5);
        x.pass(9);
        CHECK.due("light() of all at home", x.light(), 0.0);
    }

    /** Worked out apart from the program: 659, by 31 each time, with -1 for the tenth of 21 numbers. */
    private static void digestOfANewOne() {
        java.math.BigInteger d = java.math.BigInteger.valueOf(659);
        for (int i = 0; i < 21; i++) {
            d = d.multiply(java.math.BigInteger.valueOf(31)).add(java.math.BigInteger.valueOf(i == 9 ? -1 : 0));
        }
        CHECK.due("digest() of a new one", new LanternWalk().digest(), d.longValue());
    }

    private static long told(LanternWalk x, int[] winds) {
        long d = 659;
        for (int what = 0; what <= 10; what++) {
            d = d * 31 + x.count(what);
        }
        for (int wind : winds) {
            d = d * 31 + wind;
        }
        for (int s = 0; s < x.count(1); s++) {
            for (int what = 0; what <= 5; what++) {
                d = d * 31 + x.stretch(s, what);
            }
        }
        for (int w = 0; w < x.count(3); w++) {
            for (int what = 0; what <= 8; what++) {
                d = d * 31 + x.walker(w, what);
            }
            for (int s = 0; s < x.count(8); s++) {
                d = d * 31 + x.knows(w, s);
            }
        }
        for (int s = 0; s < x.count(8); s++) {
            d = d * 31 + x.song(s, 0);
        }
        return d;
    }

    private static void digest() {
        LanternWalk x = new LanternWalk();
        int[] winds = {3, 0, 9, 1, 0, 8, 2, 0, 6, 7};
        for (int step = 0; step < winds.length; step++) {
            x.setWind(step, winds[step]);
        }
        x.addStretch(4, 1);
        x.addStretch(9, 2);
        for (int w = 0; w < 7; w++) {
            x.come(1 + w % 3, 11 * w, w);
        }
        x.addSong(2);
        x.addSong(7);
        x.teach(0, 0, 98);
        x.teach(3, 1, 12);
        for (int i = 0; i < 15; i++) {
            CHECK.due("digest() behind " + i, x.digest(), told(x, winds));
            CHECK.due("digest() behind " + i + " again", x.digest(), told(x, winds));
            x.pass(1);
        }
    }
}
