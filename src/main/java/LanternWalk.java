import java.util.Arrays;

/** A lantern parade: walkers, wicks, corners and songs, and a look at what comes. */
public final class LanternWalk {
    private static final int MOST_STRETCHES = 10;
    private static final int LONGEST_STRETCH = 20;
    private static final int MOST_LETS = 4;
    private static final int STEWARDS = 2;
    private static final int WINDS = 10;
    private static final int STRONGEST_WIND = 9;
    private static final int DRAINING_WIND = 6;
    private static final int BLOWING_WIND = 8;
    private static final int MOST_WALKERS = 20;
    private static final int TOP_PACE = 3;
    private static final int MOST_WICK = 200;
    private static final int TOP_VOICE = 9;
    private static final int DARK_HELPS = 3;
    private static final int ROOM_AT_PLACE = 2;
    private static final int MOST_SONGS = 6;
    private static final int LONGEST_SONG = 9;
    private static final int VERSIONS = 99;

    private static final int WAITS = 0;
    private static final int WALKS = 1;
    private static final int IS_HOME = 2;
    private static final int NONE = -1;

    private static final int MOST_PASSED = 200;
    private static final int MOST_FORESEEN = 150;
    private static final int MOST_TO_HOME = 300;
    private static final int MOST_TO_HEAR = 150;
    private static final int MOST_ADVISED = 100;

    private static final int STRETCH_TELLS = 6;
    private static final int WALKER_TELLS = 9;
    private static final int SONG_TELLS = 4;
    private static final int COUNT_TELLS = 11;
    private static final int FORESEE_TELLS = 3;
    private static final long DIGEST_START = 659L;
    private static final long DIGEST_FACTOR = 31L;

    private final Setting setting;
    private final Parade now;
    /** Made once and written over by each look ahead, so that looking makes no objects. */
    private final Parade ahead;

    public LanternWalk() {
        Setting made = new Setting();
        setting = made;
        now = new Parade(made);
        ahead = new Parade(made);
    }

    // ---- route, wind, walkers, songs

    public int addStretch(int length, int lets) throws IllegalArgumentException, IllegalStateException {
        if (length < 1 || length > LONGEST_STRETCH || lets < 1 || lets > MOST_LETS) {
            throw new IllegalArgumentException("length is not 1 to 20, or lets is not 1 to 4");
        }
        if (setting.stretches >= MOST_STRETCHES || now.step > 0) {
            throw new IllegalStateException("there are 10 stretches, or a step has gone by");
        }
        return setting.appendStretch(length, lets);
    }

    public int post(int steward, int stretch) throws IndexOutOfBoundsException {
        if (steward < 0 || steward >= STEWARDS || (stretch != NONE && !setting.hasStretch(stretch))) {
            throw new IndexOutOfBoundsException("no such steward or stretch");
        }
        int before = now.corner[steward];
        now.corner[steward] = stretch;
        return before;
    }

    public int setWind(int step, int wind) throws IndexOutOfBoundsException, IllegalArgumentException {
        if (step < 0 || step >= WINDS) {
            throw new IndexOutOfBoundsException("step is not 0 to 9");
        }
        if (wind < 0 || wind > STRONGEST_WIND) {
            throw new IllegalArgumentException("wind is not 0 to 9");
        }
        int before = setting.wind[step];
        setting.wind[step] = wind;
        return before;
    }

    public int come(int pace, int wick, int voice) throws IllegalArgumentException, IllegalStateException {
        if (pace < 1 || pace > TOP_PACE || wick < 0 || wick > MOST_WICK || voice < 0 || voice > TOP_VOICE) {
            throw new IllegalArgumentException("pace is not 1 to 3, wick not 0 to 200, or voice not 0 to 9");
        }
        if (setting.walkers >= MOST_WALKERS) {
            throw new IllegalStateException("there are 20 walkers");
        }
        int walker = setting.appendWalker(pace, voice);
        now.wick[walker] = wick;
        now.burns[walker] = wick > 0;
        return walker;
    }

    public int trim(int walker, int wick) throws IndexOutOfBoundsException, IllegalArgumentException,
            IllegalStateException {
        if (!setting.hasWalker(walker)) {
            throw new IndexOutOfBoundsException("no such walker");
        }
        if (wick < 1 || wick > MOST_WICK) {
            throw new IllegalArgumentException("wick is not 1 to 200");
        }
        if (now.stage[walker] == IS_HOME) {
            throw new IllegalStateException("this walker is home");
        }
        now.wick[walker] = Math.min(MOST_WICK, now.wick[walker] + wick);
        now.burns[walker] = true;
        return now.wick[walker];
    }

    public int addSong(int length) throws IllegalArgumentException, IllegalStateException {
        if (length < 1 || length > LONGEST_SONG) {
            throw new IllegalArgumentException("length is not 1 to 9");
        }
        if (setting.songs >= MOST_SONGS) {
            throw new IllegalStateException("there are 6 songs");
        }
        return setting.appendSong(length);
    }

    public int teach(int walker, int song, int version) throws IndexOutOfBoundsException, IllegalArgumentException {
        if (!setting.hasWalker(walker) || !setting.hasSong(song)) {
            throw new IndexOutOfBoundsException("no such walker or song");
        }
        if (version < 0 || version > VERSIONS) {
            throw new IllegalArgumentException("version is not 0 to 99");
        }
        int cell = cellOf(walker, song);
        int before = now.known[cell];
        now.known[cell] = version;
        return before;
    }

    // ---- what is there

    public int stretch(int stretch, int what) throws IndexOutOfBoundsException {
        if (!setting.hasStretch(stretch) || what < 0 || what >= STRETCH_TELLS) {
            throw new IndexOutOfBoundsException("no such stretch, or what is not 0 to 5");
        }
        return tellOfStretch(stretch, what);
    }

    public int walker(int walker, int what) throws IndexOutOfBoundsException {
        if (!setting.hasWalker(walker) || what < 0 || what >= WALKER_TELLS) {
            throw new IndexOutOfBoundsException("no such walker, or what is not 0 to 8");
        }
        return tellOfWalker(walker, what);
    }

    public int knows(int walker, int song) throws IndexOutOfBoundsException {
        if (!setting.hasWalker(walker) || !setting.hasSong(song)) {
            throw new IndexOutOfBoundsException("no such walker or song");
        }
        return now.known[cellOf(walker, song)];
    }

    public int song(int song, int what) throws IndexOutOfBoundsException {
        if (!setting.hasSong(song) || what < 0 || what >= SONG_TELLS) {
            throw new IndexOutOfBoundsException("no such song, or what is not 0 to 3");
        }
        switch (what) {
            case 0:
                return setting.songLength[song];
            case 1:
                return now.knowersOf(song);
            case 2:
                return now.versionsOf(song);
            default:
                return now.commonestVersionOf(song);
        }
    }

    // ---- steps

    public int pass(int steps) throws IllegalArgumentException, IllegalStateException {
        if (steps < 1 || steps > MOST_PASSED) {
            throw new IllegalArgumentException("steps is not 1 to 200");
        }
        if (setting.stretches == 0) {
            throw new IllegalStateException("the route has no stretch");
        }
        int before = now.howManyAre(IS_HOME);
        now.takeSteps(steps);
        return now.howManyAre(IS_HOME) - before;
    }

    public int count(int what) throws IndexOutOfBoundsException {
        if (what < 0 || what >= COUNT_TELLS) {
            throw new IndexOutOfBoundsException("what is not 0 to 10");
        }
        return tellOfAll(what);
    }

    // ---- looking ahead

    public int foresee(int steps, int what) throws IllegalArgumentException, IndexOutOfBoundsException,
            IllegalStateException {
        if (steps < 1 || steps > MOST_FORESEEN) {
            throw new IllegalArgumentException("steps is not 1 to 150");
        }
        if (what < 0 || what >= FORESEE_TELLS) {
            throw new IndexOutOfBoundsException("what is not 0 to 2");
        }
        if (setting.stretches == 0) {
            throw new IllegalStateException("the route has no stretch");
        }
        ahead.becomeLike(now);
        ahead.takeSteps(steps);
        switch (what) {
            case 0:
                return ahead.howManyAre(IS_HOME);
            case 1:
                return ahead.lanternsBurning();
            default:
                return ahead.songsKnownInAll();
        }
    }

    public int home(int walker) throws IndexOutOfBoundsException {
        if (!setting.hasWalker(walker)) {
            throw new IndexOutOfBoundsException("no such walker");
        }
        if (now.stage[walker] == IS_HOME) {
            return 0;
        }
        if (setting.stretches == 0) {
            return NONE;
        }
        ahead.becomeLike(now);
        for (int steps = 1; steps <= MOST_TO_HOME; steps++) {
            ahead.takeStep();
            if (ahead.stage[walker] == IS_HOME) {
                return steps;
            }
        }
        return NONE;
    }

    public int hears(int walker, int song) throws IndexOutOfBoundsException {
        if (!setting.hasWalker(walker) || !setting.hasSong(song)) {
            throw new IndexOutOfBoundsException("no such walker or song");
        }
        int cell = cellOf(walker, song);
        // The document names this case ahead of "without a route", where it needs no step.
        if (now.known[cell] != 0) {
            return 0;
        }
        if (setting.stretches == 0) {
            return NONE;
        }
        ahead.becomeLike(now);
        for (int steps = 1; steps <= MOST_TO_HEAR; steps++) {
            ahead.takeStep();
            if (ahead.known[cell] != 0) {
                return steps;
            }
        }
        return NONE;
    }

    public int advise(int steward, int steps) throws IndexOutOfBoundsException, IllegalArgumentException,
            IllegalStateException {
        if (steward < 0 || steward >= STEWARDS) {
            throw new IndexOutOfBoundsException("steward is not 0 to 1");
        }
        if (steps < 1 || steps > MOST_ADVISED) {
            throw new IllegalArgumentException("steps is not 1 to 100");
        }
        if (setting.stretches == 0) {
            throw new IllegalStateException("the route has no stretch");
        }
        int best = NONE;
        int mostHome = -1;
        // At none comes first, so that a corner has to be better than that.
        for (int stretch = NONE; stretch < setting.stretches; stretch++) {
            ahead.becomeLike(now);
            ahead.corner[steward] = stretch;
            ahead.takeSteps(steps);
            int homeThen = ahead.howManyAre(IS_HOME);
            if (homeThen > mostHome) {
                mostHome = homeThen;
                best = stretch;
            }
        }
        return best;
    }

    public double light() {
        int walking = now.howManyAre(WALKS);
        if (walking == 0) {
            return 0.0;
        }
        return (double) now.lanternsBurning() / (double) walking;
    }

    public long digest() {
        long sum = DIGEST_START;
        for (int what = 0; what < COUNT_TELLS; what++) {
            sum = digestWith(sum, tellOfAll(what));
        }
        for (int step = 0; step < WINDS; step++) {
            sum = digestWith(sum, setting.wind[step]);
        }
        for (int stretch = 0; stretch < setting.stretches; stretch++) {
            for (int what = 0; what < STRETCH_TELLS; what++) {
                sum = digestWith(sum, tellOfStretch(stretch, what));
            }
        }
        for (int walker = 0; walker < setting.walkers; walker++) {
            sum = digestOfWalker(sum, walker);
        }
        for (int song = 0; song < setting.songs; song++) {
            sum = digestWith(sum, setting.songLength[song]);
        }
        return sum;
    }

    private long digestOfWalker(long start, int walker) {
        long sum = start;
        for (int what = 0; what < WALKER_TELLS; what++) {
            sum = digestWith(sum, tellOfWalker(walker, what));
        }
        for (int song = 0; song < setting.songs; song++) {
            sum = digestWith(sum, now.known[cellOf(walker, song)]);
        }
        return sum;
    }

    private static long digestWith(long sum, int next) {
        return sum * DIGEST_FACTOR + next;
    }

    private int tellOfStretch(int stretch, int what) {
        switch (what) {
            case 0:
                return setting.length[stretch];
            case 1:
                return now.letsThrough(stretch);
            case 2:
                return setting.first[stretch];
            case 3:
                return now.walkersOn(stretch);
            case 4:
                return now.passed[stretch];
            default:
                return now.stopped[stretch];
        }
    }

    private int tellOfWalker(int walker, int what) {
        switch (what) {
            case 0:
                return setting.pace[walker];
            case 1:
                return now.wick[walker];
            case 2:
                return setting.voice[walker];
            case 3:
                return now.burns[walker] ? 1 : 0;
            case 4:
                return now.stage[walker];
            case 5:
                return now.place[walker];
            case 6:
                return now.neighboursOf(walker);
            case 7:
                return now.dark[walker];
            default:
                return now.cameHome[walker];
        }
    }

    private int tellOfAll(int what) {
        switch (what) {
            case 0:
                return now.step;
            case 1:
                return setting.stretches;
            case 2:
                return setting.places;
            case 3:
                return setting.walkers;
            case 4:
                return now.howManyAre(WAITS);
            case 5:
                return now.howManyAre(WALKS);
            case 6:
                return now.howManyAre(IS_HOME);
            case 7:
                return now.lanternsBurning();
            case 8:
                return setting.songs;
            case 9:
                return now.foremostPlace();
            default:
                return now.paradeLength();
        }
    }

    private static int cellOf(int walker, int song) {
        return walker * MOST_SONGS + song;
    }

    /** What no step changes: held once, for the parade itself and for looking ahead. */
    private static final class Setting {
        int stretches;
        int places;
        final int[] length = new int[MOST_STRETCHES];
        final int[] lets = new int[MOST_STRETCHES];
        final int[] first = new int[MOST_STRETCHES];
        final int[] wind = new int[WINDS];
        int walkers;
        final int[] pace = new int[MOST_WALKERS];
        final int[] voice = new int[MOST_WALKERS];
        int songs;
        final int[] songLength = new int[MOST_SONGS];

        boolean hasStretch(int stretch) {
            return stretch >= 0 && stretch < stretches;
        }

        boolean hasWalker(int walker) {
            return walker >= 0 && walker < walkers;
        }

        boolean hasSong(int song) {
            return song >= 0 && song < songs;
        }

        /** The caller sees to it that there is room, here and in the next two. */
        int appendStretch(int itsLength, int itsLets) {
            int stretch = stretches;
            length[stretch] = itsLength;
            lets[stretch] = itsLets;
            first[stretch] = places;
            places += itsLength;
            stretches++;
            return stretch;
        }

        int appendWalker(int itsPace, int itsVoice) {
            int walker = walkers;
            pace[walker] = itsPace;
            voice[walker] = itsVoice;
            walkers++;
            return walker;
        }

        int appendSong(int itsLength) {
            int song = songs;
            songLength[song] = itsLength;
            songs++;
            return song;
        }

        /** The stretch whose last place this is, NONE if it is the last of none. */
        int stretchEndingAt(int where) {
            for (int stretch = 0; stretch < stretches; stretch++) {
                if (first[stretch] + length[stretch] - 1 == where) {
                    return stretch;
                }
            }
            return NONE;
        }
    }

    /** All that steps change, and the steps themselves. */
    private static final class Parade {
        private final Setting setting;
        int step;
        final int[] corner = new int[STEWARDS];
        final int[] passed = new int[MOST_STRETCHES];
        final int[] stopped = new int[MOST_STRETCHES];
        final int[] wick = new int[MOST_WALKERS];
        final boolean[] burns = new boolean[MOST_WALKERS];
        final int[] stage = new int[MOST_WALKERS];
        final int[] place = new int[MOST_WALKERS];
        final int[] dark = new int[MOST_WALKERS];
        final int[] cameHome = new int[MOST_WALKERS];
        final int[] known = new int[MOST_WALKERS * MOST_SONGS];
        // Notes of the step that goes on: of no worth behind it, and so not copied.
        private final boolean[] burnedBefore = new boolean[MOST_WALKERS];
        private final int[] knownBefore = new int[MOST_WALKERS * MOST_SONGS];
        private final int[] loudest = new int[MOST_SONGS];
        private final int[] stillLets = new int[MOST_STRETCHES];
        private final boolean[] hasGone = new boolean[MOST_WALKERS];

        Parade(Setting its) {
            setting = its;
            Arrays.fill(corner, NONE);
            Arrays.fill(place, NONE);
            Arrays.fill(cameHome, NONE);
        }

        void becomeLike(Parade other) {
            step = other.step;
            copyNumbers(other.corner, corner);
            copyNumbers(other.passed, passed);
            copyNumbers(other.stopped, stopped);
            copyNumbers(other.wick, wick);
            copyFlags(other.burns, burns);
            copyNumbers(other.stage, stage);
            copyNumbers(other.place, place);
            copyNumbers(other.dark, dark);
            copyNumbers(other.cameHome, cameHome);
            copyNumbers(other.known, known);
        }

        private static void copyNumbers(int[] from, int[] to) {
            System.arraycopy(from, 0, to, 0, Math.min(from.length, to.length));
        }

        private static void copyFlags(boolean[] from, boolean[] to) {
            for (int i = 0; i < from.length && i < to.length; i++) {
                to[i] = from[i];
            }
        }

        // ---- what is told

        int howManyAre(int wanted) {
            int found = 0;
            for (int w = 0; w < setting.walkers; w++) {
                if (stage[w] == wanted) {
                    found++;
                }
            }
            return found;
        }

        int lanternsBurning() {
            int found = 0;
            for (int w = 0; w < setting.walkers; w++) {
                if (stage[w] == WALKS && burns[w]) {
                    found++;
                }
            }
            return found;
        }

        int songsKnownInAll() {
            int found = 0;
            for (int song = 0; song < setting.songs; song++) {
                found += knowersOf(song);
            }
            return found;
        }

        int knowersOf(int song) {
            int found = 0;
            for (int w = 0; w < setting.walkers; w++) {
                if (known[cellOf(w, song)] != 0) {
                    found++;
                }
            }
            return found;
        }

        private int knowersOfVersion(int song, int version) {
            int found = 0;
            for (int w = 0; w < setting.walkers; w++) {
                if (known[cellOf(w, song)] == version) {
                    found++;
                }
            }
            return found;
        }

        int versionsOf(int song) {
            int found = 0;
            for (int version = 1; version <= VERSIONS; version++) {
                if (knowersOfVersion(song, version) > 0) {
                    found++;
                }
            }
            return found;
        }

        int commonestVersionOf(int song) {
            int best = 0;
            int most = 0;
            for (int version = 1; version <= VERSIONS; version++) {
                int knowers = knowersOfVersion(song, version);
                if (knowers > most) {
                    most = knowers;
                    best = version;
                }
            }
            return best;
        }

        int letsThrough(int stretch) {
            int lets = setting.lets[stretch];
            for (int steward = 0; steward < STEWARDS; steward++) {
                if (corner[steward] == stretch) {
                    lets++;
                }
            }
            return lets;
        }

        int walkersOn(int stretch) {
            int first = setting.first[stretch];
            int behind = first + setting.length[stretch];
            int found = 0;
            for (int w = 0; w < setting.walkers; w++) {
                if (stage[w] == WALKS && place[w] >= first && place[w] < behind) {
                    found++;
                }
            }
            return found;
        }

        private int walkersAt(int where) {
            int found = 0;
            for (int w = 0; w < setting.walkers; w++) {
                if (stage[w] == WALKS && place[w] == where) {
                    found++;
                }
            }
            return found;
        }

        private boolean areNeighbours(int one, int other) {
            return one != other && stage[one] == WALKS && stage[other] == WALKS
                    && place[one] - place[other] <= 1 && place[other] - place[one] <= 1;
        }

        int neighboursOf(int walker) {
            int found = 0;
            for (int w = 0; w < setting.walkers; w++) {
                if (areNeighbours(walker, w)) {
                    found++;
                }
            }
            return found;
        }

        int foremostPlace() {
            int foremost = NONE;
            for (int w = 0; w < setting.walkers; w++) {
                if (stage[w] == WALKS && place[w] > foremost) {
                    foremost = place[w];
                }
            }
            return foremost;
        }

        int paradeLength() {
            int foremost = foremostPlace();
            int last = foremost;
            for (int w = 0; w < setting.walkers; w++) {
                if (stage[w] == WALKS && place[w] < last) {
                    last = place[w];
                }
            }
            return foremost - last;
        }

        // ---- how a step goes

        void takeSteps(int steps) {
            for (int taken = 0; taken < steps; taken++) {
                takeStep();
            }
        }

        void takeStep() {
            int wind = setting.wind[Math.floorMod(step, WINDS)];
            burnDown(wind);
            blowOut(wind);
            lightEachOther();
            singToEachOther();
            goOn();
            start();
            step++;
        }

        private void burnDown(int wind) {
            int loss = wind >= DRAINING_WIND ? 2 : 1;
            for (int w = 0; w < setting.walkers; w++) {
                if (burns[w] && stage[w] != IS_HOME) {
                    wick[w] = Math.max(0, wick[w] - loss);
                    burns[w] = wick[w] > 0;
                }
            }
        }

        private void blowOut(int wind) {
            if (wind < BLOWING_WIND) {
                return;
            }
            for (int w = 0; w < setting.walkers; w++) {
                if (stage[w] == WALKS && neighboursOf(w) < 2) {
                    burns[w] = false;
                }
            }
        }

        private void lightEachOther() {
            copyFlags(burns, burnedBefore);
            for (int w = 0; w < setting.walkers; w++) {
                if (stage[w] == WALKS && wick[w] > 0 && isBesideBurning(w)) {
                    burns[w] = true;
                }
            }
        }

        private boolean isBesideBurning(int walker) {
            for (int w = 0; w < setting.walkers; w++) {
                if (burnedBefore[w] && areNeighbours(walker, w)) {
                    return true;
                }
            }
            return false;
        }

        private void singToEachOther() {
            copyNumbers(known, knownBefore);
            for (int w = 0; w < setting.walkers; w++) {
                if (stage[w] == WALKS) {
                    listenAround(w);
                }
            }
        }

        private void listenAround(int learner) {
            Arrays.fill(loudest, NONE);
            for (int w = 0; w < setting.walkers; w++) {
                if (areNeighbours(learner, w)) {
                    listenTo(w, learner);
                }
            }
        }

        /**
         * A louder singer, heard later, writes over what was learnt of this one; and where the
         * loudest is not heard, none of the others was.
         */
        private void listenTo(int singer, int learner) {
            int voice = setting.voice[singer];
            int heard = burns[learner] ? voice : voice + DARK_HELPS;
            boolean changes = burns[learner] && burns[singer];
            for (int song = 0; song < setting.songs; song++) {
                int own = cellOf(learner, song);
                int sung = knownBefore[cellOf(singer, song)];
                if (knownBefore[own] == 0 && sung != 0 && voice > loudest[song]) {
                    loudest[song] = voice;
                    if (heard >= setting.songLength[song]) {
                        known[own] = changes ? sung % VERSIONS + 1 : sung;
                    }
                }
            }
        }

        private void goOn() {
            for (int stretch = 0; stretch < setting.stretches; stretch++) {
                stillLets[stretch] = letsThrough(stretch);
            }
            for (int w = 0; w < setting.walkers; w++) {
                hasGone[w] = false;
            }
            for (int turn = 0; turn < setting.walkers; turn++) {
                int next = foremostToGo();
                if (next == NONE) {
                    return;
                }
                hasGone[next] = true;
                walkOn(next);
            }
        }

        /** Those who have not gone yet stand where they stood, so this keeps the order of the beginning. */
        private int foremostToGo() {
            int foremost = NONE;
            int greatest = -1;
            for (int w = 0; w < setting.walkers; w++) {
                if (stage[w] == WALKS && !hasGone[w] && place[w] > greatest) {
                    greatest = place[w];
                    foremost = w;
                }
            }
            return foremost;
        }

        private void walkOn(int walker) {
            int places = setting.pace[walker];
            if (!burns[walker]) {
                dark[walker]++;
                places = Math.max(1, places - 1);
            }
            boolean goes = true;
            for (int gone = 0; gone < places && goes; gone++) {
                goes = goOnePlace(walker);
            }
        }

        /** Whether this one came to a further place, from which there may be more to go. */
        private boolean goOnePlace(int walker) {
            int next = place[walker] + 1;
            if (walkersAt(next) >= ROOM_AT_PLACE) {
                return false;
            }
            int stretch = setting.stretchEndingAt(place[walker]);
            if (stretch != NONE && !passCorner(stretch)) {
                return false;
            }
            if (next >= setting.places) {
                comeHome(walker);
                return false;
            }
            place[walker] = next;
            return true;
        }

        private boolean passCorner(int stretch) {
            if (stillLets[stretch] <= 0) {
                stopped[stretch]++;
                return false;
            }
            stillLets[stretch]--;
            passed[stretch]++;
            return true;
        }

        private void comeHome(int walker) {
            stage[walker] = IS_HOME;
            place[walker] = NONE;
            cameHome[walker] = step;
        }

        private void start() {
            for (int w = 0; w < setting.walkers; w++) {
                if (stage[w] == WAITS && walkersAt(0) < ROOM_AT_PLACE) {
                    stage[w] = WALKS;
                    place[w] = 0;
                }
            }
        }
    }
}
