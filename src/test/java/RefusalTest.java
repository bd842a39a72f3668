import java.util.ArrayList;
import java.util.List;

/**
 * "A method that throws an exception changes nothing. If several exceptions apply, the one that is
 * named first is thrown."
 */
public final class RefusalTest {
    private static final Class<IllegalArgumentException> ARGUMENT = IllegalArgumentException.class;
    private static final Class<IllegalStateException> STATE = IllegalStateException.class;
    private static final Class<IndexOutOfBoundsException> INDEX = IndexOutOfBoundsException.class;
    private static final Check CHECK = new Check();

    private interface Refused {
        void on(LanternWalk x);
    }

    public static void main(String[] args) {
        addStretchNamesTheArgumentFirst();
        setWindNamesTheIndexFirst();
        comeNamesTheArgumentFirst();
        trimNamesTheIndexThenTheArgument();
        addSongNamesTheArgumentFirst();
        teachNamesTheIndexFirst();
        passNamesTheArgumentFirst();
        foreseeNamesTheArgumentThenTheIndex();
        adviseNamesTheIndexThenTheArgument();
        refusedCallsChangeNothing();
        CHECK.end();
    }

    private static void addStretchNamesTheArgumentFirst() {
        LanternWalk full = Parades.withLongestRoute(1);
        LanternWalk gone = Parades.passed(Parades.withRoute(1, 1), 1);
        LanternWalk both = Parades.passed(Parades.withLongestRoute(1), 1);
        for (LanternWalk x : new LanternWalk[] {full, gone, both}) {
            CHECK.dueThrow("addStretch(1, 1)", x, STATE, () -> x.addStretch(1, 1));
            CHECK.dueThrow("addStretch(0, 1)", x, ARGUMENT, () -> x.addStretch(0, 1));
            CHECK.dueThrow("addStretch(21, 1)", x, ARGUMENT, () -> x.addStretch(21, 1));
            CHECK.dueThrow("addStretch(1, 0)", x, ARGUMENT, () -> x.addStretch(1, 0));
            CHECK.dueThrow("addStretch(1, 5)", x, ARGUMENT, () -> x.addStretch(1, 5));
            CHECK.dueThrow("addStretch(0, 5)", x, ARGUMENT, () -> x.addStretch(0, 5));
        }
    }

    private static void setWindNamesTheIndexFirst() {
        LanternWalk x = new LanternWalk();
        for (int step : new int[] {-1, 10}) {
            CHECK.dueThrow("setWind(" + step + ", 9)", x, INDEX, () -> x.setWind(step, 9));
            CHECK.dueThrow("setWind(" + step + ", -1)", x, INDEX, () -> x.setWind(step, -1));
            CHECK.dueThrow("setWind(" + step + ", 10)", x, INDEX, () -> x.setWind(step, 10));
        }
        CHECK.dueThrow("setWind(9, 10)", x, ARGUMENT, () -> x.setWind(9, 10));
    }

    private static void comeNamesTheArgumentFirst() {
        LanternWalk x = new LanternWalk();
        for (int w = 0; w < 20; w++) {
            x.come(1, 0, 0);
        }
        int[][] bad = {{0, 0, 0}, {4, 0, 0}, {1, -1, 0}, {1, 201, 0}, {1, 0, -1}, {1, 0, 10}, {0, 201, 10}};
        for (int[] b : bad) {
            CHECK.dueThrow("come(" + b[0] + ", " + b[1] + ", " + b[2] + ") with 20 there", x, ARGUMENT,
                    () -> x.come(b[0], b[1], b[2]));
        }
        CHECK.dueThrow("come(1, 0, 0) with 20 there", x, STATE, () -> x.come(1, 0, 0));
    }

    private static void trimNamesTheIndexThenTheArgument() {
        LanternWalk x = Parades.passed(Parades.come(Parades.withRoute(1, 1), 0, 0, 1), 2);
        CHECK.dueThrow("trim(0, 1) at home", x, STATE, () -> x.trim(0, 1));
        for (int wick : new int[] {0, 201}) {
            CHECK.dueThrow("trim(0, " + wick + ") at home", x, ARGUMENT, () -> x.trim(0, wick));
            CHECK.dueThrow("trim(1, " + wick + ")", x, INDEX, () -> x.trim(1, wick));
            CHECK.dueThrow("trim(-1, " + wick + ")", x, INDEX, () -> x.trim(-1, wick));
        }
    }

    private static void addSongNamesTheArgumentFirst() {
        LanternWalk x = new LanternWalk();
        for (int s = 0; s < 6; s++) {
            x.addSong(1);
        }
        CHECK.dueThrow("addSong(9) with 6 there", x, STATE, () -> x.addSong(9));
        CHECK.dueThrow("addSong(0) with 6 there", x, ARGUMENT, () -> x.addSong(0));
        CHECK.dueThrow("addSong(10) with 6 there", x, ARGUMENT, () -> x.addSong(10));
    }

    private static void teachNamesTheIndexFirst() {
        LanternWalk x = Parades.come(new LanternWalk(), 0, 0, 1);
        x.addSong(1);
        for (int version : new int[] {-1, 100}) {
            CHECK.dueThrow("teach(1, 0, " + version + ")", x, INDEX, () -> x.teach(1, 0, version));
            CHECK.dueThrow("teach(0, 1, " + version + ")", x, INDEX, () -> x.teach(0, 1, version));
            CHECK.dueThrow("teach(-1, -1, " + version + ")", x, INDEX, () -> x.teach(-1, -1, version));
            CHECK.dueThrow("teach(0, 0, " + version + ")", x, ARGUMENT, () -> x.teach(0, 0, version));
        }
    }

    private static void passNamesTheArgumentFirst() {
        LanternWalk x = new LanternWalk();
        CHECK.dueThrow("pass(0) without a route", x, ARGUMENT, () -> x.pass(0));
        CHECK.dueThrow("pass(201) without a route", x, ARGUMENT, () -> x.pass(201));
        CHECK.dueThrow("pass(1) without a route", x, STATE, () -> x.pass(1));
    }

    private static void foreseeNamesTheArgumentThenTheIndex() {
        LanternWalk without = new LanternWalk();
        LanternWalk with = Parades.withRoute(1, 1);
        for (LanternWalk x : new LanternWalk[] {without, with}) {
            for (int steps : new int[] {0, 151}) {
                CHECK.dueThrow("foresee(" + steps + ", 0)", x, ARGUMENT, () -> x.foresee(steps, 0));
                CHECK.dueThrow("foresee(" + steps + ", -1)", x, ARGUMENT, () -> x.foresee(steps, -1));
                CHECK.dueThrow("foresee(" + steps + ", 3)", x, ARGUMENT, () -> x.foresee(steps, 3));
            }
            CHECK.dueThrow("foresee(150, -1)", x, INDEX, () -> x.foresee(150, -1));
            CHECK.dueThrow("foresee(150, 3)", x, INDEX, () -> x.foresee(150, 3));
        }
        CHECK.dueThrow("foresee(150, 2) without a route", without, STATE, () -> without.foresee(150, 2));
    }

    private static void adviseNamesTheIndexThenTheArgument() {
        LanternWalk without = new LanternWalk();
        LanternWalk with = Parades.withRoute(1, 1);
        for (LanternWalk x : new LanternWalk[] {without, with}) {
            for (int steward : new int[] {-1, 2}) {
                CHECK.dueThrow("advise(" + steward + ", 0)", x, INDEX, () -> x.advise(steward, 0));
                CHECK.dueThrow("advise(" + steward + ", 100)", x, INDEX, () -> x.advise(steward, 100));
                CHECK.dueThrow("advise(" + steward + ", 101)", x, INDEX, () -> x.advise(steward, 101));
            }
            CHECK.dueThrow("advise(1, 0)", x, ARGUMENT, () -> x.advise(1, 0));
            CHECK.dueThrow("advise(1, 101)", x, ARGUMENT, () -> x.advise(1, 101));
        }
        CHECK.dueThrow("advise(1, 100) without a route", without, STATE, () -> without.advise(1, 100));
    }

    /** Each kind of refusal once, on a parade of four stretches, nine walkers and two songs that goes, one at home. */
    private static List<Refused> allRefused() {
        List<Refused> all = new ArrayList<>();
        all.add(x -> x.addStretch(1, 1));
        all.add(x -> x.addStretch(21, 1));
        all.add(x -> x.post(2, 1));
        all.add(x -> x.post(0, 4));
        all.add(x -> x.post(1, -2));
        all.add(x -> x.setWind(10, 5));
        all.add(x -> x.setWind(5, 10));
        all.add(x -> x.come(4, 5, 5));
        all.add(x -> x.come(1, 201, 5));
        all.add(x -> x.come(1, 5, 10));
        all.add(x -> x.trim(9, 5));
        all.add(x -> x.trim(1, 201));
        all.add(x -> x.trim(0, 5));
        all.add(x -> x.addSong(10));
        all.add(x -> x.teach(9, 0, 5));
        all.add(x -> x.teach(0, 2, 5));
        all.add(x -> x.teach(1, 1, 100));
        all.add(x -> x.stretch(4, 0));
        all.add(x -> x.walker(9, 0));
        all.add(x -> x.knows(0, 2));
        all.add(x -> x.song(2, 0));
        all.add(x -> x.pass(201));
        all.add(x -> x.count(11));
        all.add(x -> x.foresee(151, 0));
        all.add(x -> x.foresee(5, 3));
        all.add(x -> x.home(9));
        all.add(x -> x.hears(9, 0));
        all.add(x -> x.hears(0, 2));
        all.add(x -> x.advise(2, 5));
        all.add(x -> x.advise(0, 101));
        return all;
    }

    private static LanternWalk going() {
        LanternWalk x = Parades.withRoute(1, 1, 3, 1, 2, 2, 2, 1);
        Parades.come(x, 30, 6, 3, 1, 2, 3, 1, 2, 3, 1, 2);
        x.addSong(2);
        x.addSong(8);
        x.teach(8, 0, 98);
        x.teach(2, 1, 7);
        x.setWind(7, 9);
        x.post(0, 1);
        x.post(1, 3);
        return Parades.passed(x, 5);
    }

    /** One of two equal parades is called with all that is refused, at each step; they stay equal to the end. */
    private static void refusedCallsChangeNothing() {
        LanternWalk called = going();
        LanternWalk plain = going();
        CHECK.due("who is home", called.walker(0, 4), 2);
        int steps = 0;
        while (plain.count(6) < 9 && steps < 12) {
            int refused = 0;
            for (Refused r : allRefused()) {
                refused += isRefused(r, called) ? 1 : 0;
            }
            CHECK.due("refused at " + plain.count(0), refused, allRefused().size());
            CHECK.due("digest() at " + plain.count(0), called.digest(), plain.digest());
            CHECK.due("foresee(9, 2) at " + plain.count(0), called.foresee(9, 2), plain.foresee(9, 2));
            CHECK.due("pass(1) at " + plain.count(0), called.pass(1), plain.pass(1));
            steps++;
        }
        CHECK.due("digest() at the end", called.digest(), plain.digest());
        CHECK.due("where the steward 0 is", called.post(0, -1), 1);
        CHECK.due("where the steward 1 is", called.post(1, -1), 3);
    }

    private static boolean isRefused(Refused call, LanternWalk x) {
        try {
            call.on(x);
            return false;
        } catch (RuntimeException e) {
            return true;
        }
    }
}
