import java.util.Random;

/** Long runs of calls, drawn from fixed seeds, on the program and on the Model: each answer is the same. */
public final class ModelTest {
    private static final int RUNS = 300;
    private static final Check CHECK = new Check();

    private final Random random;
    private final LanternWalk x = new LanternWalk();
    private final Model m = new Model();
    private final int run;
    private final boolean wild;

    private ModelTest(int run) {
        this.run = run;
        random = new Random(9000 + run);
        wild = run % 5 == 0;
    }

    public static void main(String[] args) {
        for (int run = 0; run < RUNS; run++) {
            new ModelTest(run).go();
        }
        CHECK.end();
    }

    private void go() {
        if (random.nextInt(20) != 0) {
            lay();
        }
        int calls = 60 + random.nextInt(60);
        for (int i = 0; i < calls; i++) {
            draw();
            CHECK.due("run " + run + ", digest() behind call " + i, x.digest(), m.digest());
            CHECK.due("run " + run + ", light() behind call " + i, x.light(), m.light());
        }
    }

    /** Mostly short routes with narrow corners, so that there are jams and meetings. */
    private void lay() {
        int stretches = 1 + random.nextInt(random.nextInt(3) == 0 ? 10 : 4);
        int longest = 1 + random.nextInt(random.nextInt(3) == 0 ? 20 : 5);
        for (int i = 0; i < stretches; i++) {
            int length = 1 + random.nextInt(longest);
            int lets = 1 + random.nextInt(random.nextInt(3) == 0 ? 4 : 1);
            same("addStretch", () -> x.addStretch(length, lets), () -> m.addStretch(length, lets));
        }
        int walkers = random.nextInt(21);
        for (int i = 0; i < walkers; i++) {
            come();
        }
        int songs = random.nextInt(7);
        for (int i = 0; i < songs; i++) {
            int length = 1 + random.nextInt(9);
            same("addSong", () -> x.addSong(length), () -> m.addSong(length));
            teach();
        }
        for (int i = random.nextInt(10); i < 10; i++) {
            setWind();
        }
    }

    private int number(int below) {
        int[] odd = {-2, -1, below, below + 1, Integer.MIN_VALUE, Integer.MAX_VALUE, 0, below - 1};
        return wild && random.nextInt(4) == 0 ? odd[random.nextInt(odd.length)] : random.nextInt(below);
    }

    private int oneOf(int there) {
        return number(Math.max(1, there));
    }

    private void come() {
        int pace = 1 + number(3);
        int wick = random.nextBoolean() ? number(201) : number(30);
        int voice = number(10);
        same("come", () -> x.come(pace, wick, voice), () -> m.come(pace, wick, voice));
    }

    private void teach() {
        int walker = oneOf(m.walkers.size());
        int song = oneOf(m.songs.size());
        int version = random.nextInt(5) == 0 ? 99 : number(100);
        same("teach", () -> x.teach(walker, song, version), () -> m.teach(walker, song, version));
    }

    private void setWind() {
        int step = number(10);
        int wind = number(10);
        same("setWind", () -> x.setWind(step, wind), () -> m.setWind(step, wind));
    }

    private void draw() {
        switch (random.nextInt(7)) {
            case 0:
            case 1:
                change();
                break;
            case 2:
            case 3:
                look();
                break;
            case 4:
                lookAhead();
                break;
            default:
                int steps = 1 + number(random.nextInt(12) == 0 ? 200 : 5);
                same("pass(" + steps + ")", () -> x.pass(steps), () -> m.pass(steps));
                break;
        }
    }

    private void change() {
        int length = 1 + number(20);
        int walker = oneOf(m.walkers.size());
        switch (random.nextInt(8)) {
            case 0:
                int lets = 1 + number(4);
                same("addStretch", () -> x.addStretch(length, lets), () -> m.addStretch(length, lets));
                break;
            case 1:
                int steward = number(2);
                int stretch = random.nextInt(3) == 0 ? -1 : oneOf(m.stretches.size());
                same("post", () -> x.post(steward, stretch), () -> m.post(steward, stretch));
                break;
            case 2:
                setWind();
                break;
            case 3:
                come();
                break;
            case 4:
                int wick = 1 + number(random.nextBoolean() ? 200 : 9);
                same("trim", () -> x.trim(walker, wick), () -> m.trim(walker, wick));
                break;
            case 5:
                int songLength = 1 + number(9);
                same("addSong", () -> x.addSong(songLength), () -> m.addSong(songLength));
                break;
            default:
                teach();
                break;
        }
    }

    private void look() {
        int walker = oneOf(m.walkers.size());
        int song = oneOf(m.songs.size());
        int stretch = oneOf(m.stretches.size());
        int ofStretch = number(6);
        int ofWalker = number(9);
        int ofSong = number(4);
        int ofAll = number(11);
        same("stretch", () -> x.stretch(stretch, ofStretch), () -> m.stretch(stretch, ofStretch));
        same("walker", () -> x.walker(walker, ofWalker), () -> m.walker(walker, ofWalker));
        same("knows", () -> x.knows(walker, song), () -> m.knows(walker, song));
        same("song", () -> x.song(song, ofSong), () -> m.song(song, ofSong));
        same("count", () -> x.count(ofAll), () -> m.count(ofAll));
    }

    private void lookAhead() {
        int walker = oneOf(m.walkers.size());
        int song = oneOf(m.songs.size());
        int steward = number(2);
        int what = number(3);
        int steps = 1 + number(random.nextInt(3) == 0 ? 150 : 25);
        int forAdvice = 1 + number(random.nextInt(3) == 0 ? 100 : 25);
        same("foresee", () -> x.foresee(steps, what), () -> m.foresee(steps, what));
        same("home", () -> x.home(walker), () -> m.home(walker));
        same("hears", () -> x.hears(walker, song), () -> m.hears(walker, song));
        same("advise", () -> x.advise(steward, forAdvice), () -> m.advise(steward, forAdvice));
    }

    private void same(String call, Check.Call program, Check.Call model) {
        CHECK.due("run " + run + ", " + call, answer(program), answer(model));
    }

    private static Object answer(Check.Call call) {
        try {
            return call.answer();
        } catch (RuntimeException e) {
            return e.getClass();
        }
    }
}
