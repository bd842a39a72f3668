import java.util.ArrayList;
import java.util.HashMap;
import java.util.List;
import java.util.Map;
import java.util.TreeMap;

/**
 * The document told a second time, from its words alone and in another way than the program
 * (walkers as objects, the route as a row of places), for ModelTest to hold beside it.
 */
final class Model {
    static final class Walker {
        int number;
        int pace;
        int wick;
        int voice;
        boolean burns;
        String where = "waits";
        int place = -1;
        int dark;
        int cameHome = -1;
        Map<Integer, Integer> knows = new HashMap<>();

        Walker copy() {
            Walker c = new Walker();
            c.number = number;
            c.pace = pace;
            c.wick = wick;
            c.voice = voice;
            c.burns = burns;
            c.where = where;
            c.place = place;
            c.dark = dark;
            c.cameHome = cameHome;
            c.knows = new HashMap<>(knows);
            return c;
        }

        boolean walks() {
            return where.equals("walks");
        }

        boolean isHome() {
            return where.equals("home");
        }
    }

    int step = 0;
    List<int[]> stretches = new ArrayList<>(); // length, lets, passed, stopped
    int[] posts = {-1, -1};
    int[] winds = new int[10];
    List<Walker> walkers = new ArrayList<>();
    List<Integer> songs = new ArrayList<>();

    Model copy() {
        Model m = new Model();
        m.step = step;
        for (int[] s : stretches) {
            m.stretches.add(s.clone());
        }
        m.posts = posts.clone();
        m.winds = winds.clone();
        for (Walker w : walkers) {
            m.walkers.add(w.copy());
        }
        m.songs.addAll(songs);
        return m;
    }

    private static void index(boolean fine) {
        if (!fine) {
            throw new IndexOutOfBoundsException();
        }
    }

    private static void argument(boolean fine) {
        if (!fine) {
            throw new IllegalArgumentException();
        }
    }

    private static void state(boolean fine) {
        if (!fine) {
            throw new IllegalStateException();
        }
    }

    private static boolean in(int x, int least, int most) {
        return least <= x && x <= most;
    }

    private boolean isWalker(int w) {
        return in(w, 0, walkers.size() - 1);
    }

    private boolean isSong(int s) {
        return in(s, 0, songs.size() - 1);
    }

    private boolean isStretch(int s) {
        return in(s, 0, stretches.size() - 1);
    }

    int addStretch(int length, int lets) {
        argument(in(length, 1, 20) && in(lets, 1, 4));
        state(stretches.size() < 10 && step == 0);
        stretches.add(new int[] {length, lets, 0, 0});
        return stretches.size() - 1;
    }

    int post(int steward, int stretch) {
        index(in(steward, 0, 1) && (stretch == -1 || isStretch(stretch)));
        int before = posts[steward];
        posts[steward] = stretch;
        return before;
    }

    int setWind(int s, int wind) {
        index(in(s, 0, 9));
        argument(in(wind, 0, 9));
        int before = winds[s];
        winds[s] = wind;
        return before;
    }

    int come(int pace, int wick, int voice) {
        argument(in(pace, 1, 3) && in(wick, 0, 200) && in(voice, 0, 9));
        state(walkers.size() < 20);
        Walker w = new Walker();
        w.number = walkers.size();
        w.pace = pace;
        w.wick = wick;
        w.voice = voice;
        w.burns = wick != 0;
        walkers.add(w);
        return w.number;
    }

    int trim(int walker, int wick) {
        index(isWalker(walker));
        argument(in(wick, 1, 200));
        Walker w = walkers.get(walker);
        state(!w.isHome());
        w.wick = w.wick + wick > 200 ? 200 : w.wick + wick;
        w.burns = true;
        return w.wick;
    }

    int addSong(int length) {
        argument(in(length, 1, 9));
        state(songs.size() < 6);
        songs.add(length);
        return songs.size() - 1;
    }

    int teach(int walker, int song, int version) {
        index(isWalker(walker) && isSong(song));
        argument(in(version, 0, 99));
        int before = knows(walker, song);
        if (version == 0) {
            walkers.get(walker).knows.remove(song);
        } else {
            walkers.get(walker).knows.put(song, version);
        }
        return before;
    }

    private int firstPlace(int stretch) {
        int first = 0;
        for (int s = 0; s < stretch; s++) {
            first += stretches.get(s)[0];
        }
        return first;
    }

    private int lets(int stretch) {
        return stretches.get(stretch)[1] + (posts[0] == stretch ? 1 : 0) + (posts[1] == stretch ? 1 : 0);
    }

    /** The stretch of each place. */
    private List<Integer> row() {
        List<Integer> row = new ArrayList<>();
        for (int s = 0; s < stretches.size(); s++) {
            for (int i = 0; i < stretches.get(s)[0]; i++) {
                row.add(s);
            }
        }
        return row;
    }

    int stretch(int stretch, int what) {
        index(isStretch(stretch) && in(what, 0, 5));
        List<Integer> row = row();
        int on = (int) walkers.stream().filter(w -> w.walks() && row.get(w.place) == stretch).count();
        int[] s = stretches.get(stretch);
        return new int[] {s[0], lets(stretch), firstPlace(stretch), on, s[2], s[3]}[what];
    }

    private List<Walker> neighbours(Walker of) {
        List<Walker> found = new ArrayList<>();
        for (Walker w : walkers) {
            if (w != of && w.walks() && of.walks() && Math.abs(w.place - of.place) < 2) {
                found.add(w);
            }
        }
        return found;
    }

    int walker(int walker, int what) {
        index(isWalker(walker) && in(what, 0, 8));
        Walker w = walkers.get(walker);
        int stage = List.of("waits", "walks", "home").indexOf(w.where);
        return new int[] {w.pace, w.wick, w.voice, w.burns ? 1 : 0, stage, w.place, neighbours(w).size(), w.dark,
            w.cameHome}[what];
    }

    int knows(int walker, int song) {
        index(isWalker(walker) && isSong(song));
        return walkers.get(walker).knows.getOrDefault(song, 0);
    }

    int song(int song, int what) {
        index(isSong(song) && in(what, 0, 3));
        TreeMap<Integer, Integer> knowers = new TreeMap<>();
        int all = 0;
        for (Walker w : walkers) {
            if (w.knows.containsKey(song)) {
                all++;
                knowers.merge(w.knows.get(song), 1, Integer::sum);
            }
        }
        int common = 0;
        for (int version : knowers.descendingKeySet()) {
            if (common == 0 || knowers.get(version) >= knowers.get(common)) {
                common = version;
            }
        }
        return new int[] {songs.get(song), all, knowers.size(), common}[what];
    }

    int pass(int steps) {
        argument(in(steps, 1, 200));
        state(!stretches.isEmpty());
        int before = atHome();
        goBy(steps);
        return atHome() - before;
    }

    private Model goBy(int steps) {
        for (int i = 0; i < steps; i++) {
            go();
        }
        return this;
    }

    private int atHome() {
        return (int) walkers.stream().filter(Walker::isHome).count();
    }

    private int walking() {
        return (int) walkers.stream().filter(Walker::walks).count();
    }

    private int burning() {
        return (int) walkers.stream().filter(w -> w.walks() && w.burns).count();
    }

    private int at(int place) {
        return (int) walkers.stream().filter(w -> w.walks() && w.place == place).count();
    }

    int count(int what) {
        index(in(what, 0, 10));
        int most = walkers.stream().filter(Walker::walks).mapToInt(w -> w.place).max().orElse(-1);
        int least = walkers.stream().filter(Walker::walks).mapToInt(w -> w.place).min().orElse(-1);
        int waiting = walkers.size() - walking() - atHome();
        return new int[] {step, stretches.size(), row().size(), walkers.size(), waiting, walking(), atHome(), burning(),
            songs.size(), most, most - least}[what];
    }

    int foresee(int steps, int what) {
        argument(in(steps, 1, 150));
        index(in(what, 0, 2));
        state(!stretches.isEmpty());
        Model then = copy().goBy(steps);
        int known = then.walkers.stream().mapToInt(w -> w.knows.size()).sum();
        return new int[] {then.atHome(), then.burning(), known}[what];
    }

    int home(int walker) {
        index(isWalker(walker));
        Model then = copy();
        for (int i = 0; i <= 300 && !stretches.isEmpty(); i++) {
            if (then.walkers.get(walker).isHome()) {
                return i;
            }
            then.go();
        }
        return -1;
    }

    int hears(int walker, int song) {
        index(isWalker(walker) && isSong(song));
        if (knows(walker, song) > 0) {
            return 0;
        }
        Model then = copy();
        for (int i = 1; i <= 150 && !stretches.isEmpty(); i++) {
            then.go();
            if (then.knows(walker, song) > 0) {
                return i;
            }
        }
        return -1;
    }

    int advise(int steward, int steps) {
        index(in(steward, 0, 1));
        argument(in(steps, 1, 100));
        state(!stretches.isEmpty());
        int best = -1;
        for (int s = stretches.size() - 1; s >= 0; s--) {
            if (homeWith(steward, s, steps) > homeWith(steward, -1, steps)
                    && homeWith(steward, s, steps) >= homeWith(steward, best, steps)) {
                best = s;
            }
        }
        return best;
    }

    int homeWith(int steward, int stretch, int steps) {
        Model then = copy();
        then.posts[steward] = stretch;
        return then.goBy(steps).atHome();
    }

    double light() {
        return walking() == 0 ? 0 : 1.0 * burning() / walking();
    }

    long digest() {
        List<Integer> told = new ArrayList<>();
        for (int what = 0; what < 11; what++) {
            told.add(count(what));
        }
        for (int wind : winds) {
            told.add(wind);
        }
        for (int s = 0; s < stretches.size(); s++) {
            for (int what = 0; what < 6; what++) {
                told.add(stretch(s, what));
            }
        }
        for (int w = 0; w < walkers.size(); w++) {
            for (int what = 0; what < 9; what++) {
                told.add(walker(w, what));
            }
            for (int s = 0; s < songs.size(); s++) {
                told.add(knows(w, s));
            }
        }
        told.addAll(songs);
        long d = 659;
        for (int x : told) {
            d = d * 31 + x;
        }
        return d;
    }

    private void go() {
        int wind = winds[step % 10];
        burn(wind);
        light(snapshot());
        List<Map<Integer, Integer>> known = new ArrayList<>();
        for (Walker w : walkers) {
            known.add(Map.copyOf(w.knows));
        }
        for (Walker w : walkers) {
            for (int s = 0; s < songs.size(); s++) {
                if (w.walks() && !known.get(w.number).containsKey(s)) {
                    learn(w, s, known);
                }
            }
        }
        walk();
        for (Walker w : walkers) {
            if (w.where.equals("waits") && at(0) < 2) {
                w.where = "walks";
                w.place = 0;
            }
        }
        step++;
    }

    private List<Boolean> snapshot() {
        List<Boolean> burned = new ArrayList<>();
        for (Walker w : walkers) {
            burned.add(w.burns);
        }
        return burned;
    }

    private void burn(int wind) {
        for (Walker w : walkers) {
            if (w.burns && !w.isHome()) {
                w.wick--;
                if (wind > 5) {
                    w.wick--;
                }
                if (w.wick <= 0) {
                    w.wick = 0;
                    w.burns = false;
                }
            }
        }
        for (Walker w : walkers) {
            if (w.walks() && wind >= 8 && neighbours(w).size() < 2) {
                w.burns = false;
            }
        }
    }

    private void light(List<Boolean> burned) {
        for (Walker w : walkers) {
            if (w.walks() && !burned.get(w.number) && w.wick > 0) {
                w.burns = neighbours(w).stream().anyMatch(n -> burned.get(n.number));
            }
        }
    }

    private void learn(Walker w, int song, List<Map<Integer, Integer>> known) {
        Walker best = null;
        for (Walker n : neighbours(w)) {
            if (known.get(n.number).containsKey(song) && (best == null || n.voice > best.voice)) {
                best = n;
            }
        }
        if (best != null && best.voice + (w.burns ? 0 : 3) >= songs.get(song)) {
            int version = known.get(best.number).get(song);
            w.knows.put(song, w.burns && best.burns ? version % 99 + 1 : version);
        }
    }

    private void walk() {
        List<Integer> row = row();
        int[] through = new int[stretches.size()];
        List<Walker> order = new ArrayList<>();
        for (int place = row.size() - 1; place >= 0; place--) {
            for (Walker w : walkers) {
                if (w.walks() && w.place == place) {
                    order.add(w);
                }
            }
        }
        for (Walker w : order) {
            if (!w.burns) {
                w.dark++;
            }
            int left = w.burns || w.pace == 1 ? w.pace : w.pace - 1;
            while (left > 0 && w.walks()) {
                left = goOn(w, row, through) ? left - 1 : 0;
            }
        }
    }

    private boolean goOn(Walker w, List<Integer> row, int[] through) {
        boolean last = w.place + 1 == row.size();
        if (!last && at(w.place + 1) == 2) {
            return false;
        }
        int here = row.get(w.place);
        if (last || row.get(w.place + 1) != here) {
            if (through[here] == lets(here)) {
                stretches.get(here)[3]++;
                return false;
            }
            through[here]++;
            stretches.get(here)[2]++;
        }
        w.place++;
        if (last) {
            w.where = "home";
            w.place = -1;
            w.cameHome = step;
        }
        return true;
    }
}
