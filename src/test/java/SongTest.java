/** Promises 7, 8, 11 and 12: addSong, teach, knows, song. */
public final class SongTest {
    private static final Class<IllegalArgumentException> ARGUMENT = IllegalArgumentException.class;
    private static final Class<IllegalStateException> STATE = IllegalStateException.class;
    private static final Class<IndexOutOfBoundsException> INDEX = IndexOutOfBoundsException.class;
    private static final int[] NO_NUMBERS = {-1, 2, Integer.MIN_VALUE, Integer.MAX_VALUE};
    private static final Check CHECK = new Check();

    public static void main(String[] args) {
        addSong();
        teach();
        song();
        CHECK.end();
    }

    private static void addSong() {
        LanternWalk x = new LanternWalk();
        CHECK.due("addSong(1)", x.addSong(1), 0);
        CHECK.due("addSong(9)", x.addSong(9), 1);
        int[] bad = {0, 10, -1, Integer.MIN_VALUE, Integer.MAX_VALUE};
        for (int b : bad) {
            CHECK.dueThrow("addSong(" + b + ")", x, ARGUMENT, () -> x.addSong(b));
        }
        for (int number = 2; number < 6; number++) {
            CHECK.due("addSong the " + number + "th", x.addSong(number), number);
        }
        CHECK.dueThrow("a seventh song", x, STATE, () -> x.addSong(1));
        CHECK.dueThrow("a seventh song of no length", x, ARGUMENT, () -> x.addSong(0));
        CHECK.due("songs", x.count(8), 6);
        CHECK.due("length of 1", x.song(1, 0), 9);
        CHECK.due("length of 5", x.song(5, 0), 5);
    }

    private static void teach() {
        LanternWalk x = new LanternWalk();
        x.addStretch(1, 1);
        x.come(1, 0, 0);
        x.come(1, 0, 0);
        x.addSong(1);
        x.addSong(9);
        CHECK.due("teach(0, 0, 99)", x.teach(0, 0, 99), 0);
        CHECK.due("teach(0, 0, 1)", x.teach(0, 0, 1), 99);
        CHECK.due("teach(1, 1, 7)", x.teach(1, 1, 7), 0);
        CHECK.due("knows(0, 0)", x.knows(0, 0), 1);
        CHECK.due("knows(0, 1)", x.knows(0, 1), 0);
        CHECK.due("knows(1, 0)", x.knows(1, 0), 0);
        CHECK.due("knows(1, 1)", x.knows(1, 1), 7);
        CHECK.due("teach(0, 0, 0)", x.teach(0, 0, 0), 1);
        CHECK.due("knows(0, 0), when it is forgotten", x.knows(0, 0), 0);
        for (int b : NO_NUMBERS) {
            CHECK.dueThrow("teach(" + b + ", 0, 1)", x, INDEX, () -> x.teach(b, 0, 1));
            CHECK.dueThrow("teach(0, " + b + ", 1)", x, INDEX, () -> x.teach(0, b, 1));
            CHECK.dueThrow("teach(" + b + ", 0, 100)", x, INDEX, () -> x.teach(b, 0, 100));
            CHECK.dueThrow("teach(0, " + b + ", 100)", x, INDEX, () -> x.teach(0, b, 100));
            CHECK.dueThrow("knows(" + b + ", 0)", x, INDEX, () -> x.knows(b, 0));
            CHECK.dueThrow("knows(0, " + b + ")", x, INDEX, () -> x.knows(0, b));
        }
        int[] bad = {-1, 100, Integer.MIN_VALUE, Integer.MAX_VALUE};
        for (int b : bad) {
            CHECK.dueThrow("teach(0, 0, " + b + ")", x, ARGUMENT, () -> x.teach(0, 0, b));
        }
        x.pass(5);
        CHECK.due("teach(0, 0, 5) at home", x.teach(0, 0, 5), 0);
        CHECK.due("knows(0, 0) at home", x.knows(0, 0), 5);
    }

    private static void song() {
        LanternWalk x = new LanternWalk();
        x.addSong(4);
        x.addSong(8);
        int[] unknown = {4, 0, 0, 0};
        for (int what = 0; what < 4; what++) {
            CHECK.due("song(0, " + what + "), when nobody knows it", x.song(0, what), unknown[what]);
        }
        for (int w = 0; w < 7; w++) {
            x.come(1, 0, 0);
        }
        int[] versions = {99, 40, 40, 3, 99, 0, 50};
        for (int w = 0; w < 7; w++) {
            x.teach(w, 0, versions[w]);
        }
        int[] known = {4, 6, 4, 40};
        for (int what = 0; what < 4; what++) {
            CHECK.due("song(0, " + what + ")", x.song(0, what), known[what]);
        }
        x.teach(5, 0, 99);
        CHECK.due("song(0, 3), when three know 99", x.song(0, 3), 99);
        CHECK.due("song(1, 1)", x.song(1, 1), 0);
        for (int b : NO_NUMBERS) {
            CHECK.dueThrow("song(" + b + ", 0)", x, INDEX, () -> x.song(b, 0));
        }
        int[] bad = {-1, 4, Integer.MIN_VALUE, Integer.MAX_VALUE};
        for (int b : bad) {
            CHECK.dueThrow("song(0, " + b + ")", x, INDEX, () -> x.song(0, b));
        }
    }
}
