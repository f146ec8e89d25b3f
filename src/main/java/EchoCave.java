import java.util.Arrays;

/** An echo cave: what is said in its chamber 0 runs through it, and is heard there again. */
public final class EchoCave {
    private static final int MOST_CHAMBERS = 12;
    private static final int MOST_PASSAGES = 18;
    private static final int MOST_PLACES = 6;
    private static final int MOST_KEPT = 60;
    private static final int HEARD_FACTS = 5;
    private static final int COUNT_FACTS = 10;
    private static final int CHAMBER_FACTS = 7;
    private static final int PASSAGE_FACTS = 5;
    private static final int WOULD_FACTS = 4;

    private static final int MOST_WALL = 100;
    private static final int MOST_HEIGHT = 30;
    private static final int MOST_BATS = 20;
    private static final int MOST_LENGTH = 9;
    private static final int MOST_NARROW = 9;
    private static final int MOST_SYLLABLE = 9;
    private static final int MOST_DELAY = 20;
    private static final int MOST_BEAT = 20;
    private static final int MOST_EAR = 50;
    private static final int MOST_WORD = 999999;

    private static final int FIRST_EAR = 5;
    private static final int CALLER_STRENGTH = 100;
    private static final int CLAPPER_STRENGTH = 60;
    private static final int LAST_TIME = 200;

    // Each clapper is set off once by a word, and the chamber 0 has none.
    private static final int MOST_RUNS = MOST_PLACES + MOST_CHAMBERS - 1;
    // Each run comes once by no passage, and then by each passage once in each direction.
    private static final int MOST_COMINGS = MOST_RUNS * (1 + 2 * MOST_PASSAGES);

    private static final long DIGEST_START = 691L;

    private final Cave cave;
    private final Sound sound;
    private final Echo latest;
    private final Echo trial;
    private int ear;
    private int wordsSaid;
    private int latestWord;

    public EchoCave() {
        cave = new Cave();
        sound = new Sound(cave);
        latest = new Echo();
        trial = new Echo();
        ear = FIRST_EAR;
        wordsSaid = 0;
        latestWord = 0;
    }

    // ---- the cave

    public int addChamber(int wall, int height, int bats) throws IllegalArgumentException, IllegalStateException {
        requireArgument(isWithin(wall, 0, MOST_WALL));
        requireArgument(isWithin(height, 0, MOST_HEIGHT));
        requireArgument(isWithin(bats, 0, MOST_BATS));
        if (cave.chambers >= MOST_CHAMBERS) {
            throw new IllegalStateException("there are 12 chambers");
        }
        return cave.findChamber(wall, height, bats);
    }

    public int addPassage(int a, int b, int length, int narrow)
            throws IndexOutOfBoundsException, IllegalArgumentException, IllegalStateException {
        requireIndex(cave.hasChamber(a));
        requireIndex(cave.hasChamber(b));
        requireArgument(a != b);
        requireArgument(isWithin(length, 1, MOST_LENGTH));
        requireArgument(isWithin(narrow, 0, MOST_NARROW));
        if (cave.passages >= MOST_PASSAGES) {
            throw new IllegalStateException("there are 18 passages");
        }
        return cave.findPassage(a, b, length, narrow);
    }

    public int setWater(int water) throws IllegalArgumentException {
        requireArgument(isWithin(water, 0, MOST_HEIGHT));
        int before = cave.water;
        cave.water = water;
        return before;
    }

    public int setBats(int chamber, int bats) throws IndexOutOfBoundsException, IllegalArgumentException {
        requireIndex(cave.hasChamber(chamber));
        requireArgument(isWithin(bats, 0, MOST_BATS));
        int before = cave.bats[chamber];
        cave.bats[chamber] = bats;
        return before;
    }

    public int setClapper(int chamber, int syllable, int delay)
            throws IndexOutOfBoundsException, IllegalArgumentException {
        requireIndex(cave.hasChamber(chamber));
        requireArgument(chamber != 0);
        requireArgument(isWithin(syllable, 0, MOST_SYLLABLE));
        requireArgument(isWithin(delay, 0, MOST_DELAY));
        int before = cave.syllable[chamber];
        cave.putClapper(chamber, syllable, delay);
        return before;
    }

    public int setEar(int ear) throws IllegalArgumentException {
        requireArgument(isWithin(ear, 1, MOST_EAR));
        int before = this.ear;
        this.ear = ear;
        return before;
    }

    public int chamber(int chamber, int what) throws IndexOutOfBoundsException {
        requireIndex(cave.hasChamber(chamber));
        requireIndex(isWithin(what, 0, CHAMBER_FACTS - 1));
        return cave.chamberFact(chamber, what);
    }

    public int passage(int passage, int what) throws IndexOutOfBoundsException {
        requireIndex(cave.hasPassage(passage));
        requireIndex(isWithin(what, 0, PASSAGE_FACTS - 1));
        return cave.passageFact(passage, what);
    }

    // ---- words

    public int say(int word, int beat) throws IllegalArgumentException {
        requireWordAndBeat(word, beat);
        sound.runThrough(word, beat, ear, latest);
        wordsSaid++;
        latestWord = word;
        return latest.counted;
    }

    public int heard(int index, int what) throws IndexOutOfBoundsException {
        requireIndex(isWithin(index, 0, latest.kept - 1));
        requireIndex(isWithin(what, 0, HEARD_FACTS - 1));
        return latest.heardFact(index, what);
    }

    public boolean inOrder() {
        return latest.cameInOrder();
    }

    public int first(int place) throws IndexOutOfBoundsException {
        requireIndex(isWithin(place, 0, latest.places - 1));
        return latest.firstTime[place];
    }

    public int count(int what) throws IndexOutOfBoundsException {
        requireIndex(isWithin(what, 0, COUNT_FACTS - 1));
        return countFact(what);
    }

    // ---- what would be

    public int would(int word, int beat, int what) throws IllegalArgumentException, IndexOutOfBoundsException {
        requireWordAndBeat(word, beat);
        requireIndex(isWithin(what, 0, WOULD_FACTS - 1));
        sound.runThrough(word, beat, ear, trial);
        switch (what) {
            case 0:
                return trial.counted;
            case 1:
                return trial.cameInOrder() ? 1 : 0;
            case 2:
                return trial.lastTime;
            default:
                return sound.runs;
        }
    }

    public int advise(int word, int beat, int syllable, int delay) throws IllegalArgumentException {
        requireWordAndBeat(word, beat);
        requireArgument(isWithin(syllable, 1, MOST_SYLLABLE));
        requireArgument(isWithin(delay, 0, MOST_DELAY));
        for (int chamber = 1; chamber < cave.chambers; chamber++) {
            int syllableBefore = cave.syllable[chamber];
            int delayBefore = cave.delay[chamber];
            cave.putClapper(chamber, syllable, delay);
            boolean helps = wouldComeInOrder(word, beat);
            cave.putClapper(chamber, syllableBefore, delayBefore);
            if (helps) {
                return chamber;
            }
        }
        return -1;
    }

    public int longest(int syllable, int beat) throws IllegalArgumentException {
        requireArgument(isWithin(syllable, 1, MOST_SYLLABLE));
        requireArgument(isWithin(beat, 1, MOST_BEAT));
        int word = 0;
        int most = 0;
        // All six are tried: that a shorter word comes back where a longer one does is not promised.
        for (int times = 1; times <= MOST_PLACES; times++) {
            word = word * 10 + syllable;
            if (wouldComeInOrder(word, beat)) {
                most = times;
            }
        }
        return most;
    }

    public int quickest(int word) throws IllegalArgumentException {
        requireArgument(isWord(word));
        for (int beat = 1; beat <= MOST_BEAT; beat++) {
            if (wouldComeInOrder(word, beat)) {
                return beat;
            }
        }
        return -1;
    }

    public int way(int a, int b) throws IndexOutOfBoundsException {
        requireIndex(cave.hasChamber(a));
        requireIndex(cave.hasChamber(b));
        return cave.shortestWay(a, b);
    }

    public int highest(int chamber) throws IndexOutOfBoundsException {
        requireIndex(cave.hasChamber(chamber));
        return cave.highestWater(chamber);
    }

    public double mean() {
        return latest.meanStrength();
    }

    public long digest() {
        long d = DIGEST_START;
        for (int what = 0; what < COUNT_FACTS; what++) {
            d = d * 31 + countFact(what);
        }
        for (int chamber = 0; chamber < cave.chambers; chamber++) {
            for (int what = 0; what < CHAMBER_FACTS; what++) {
                d = d * 31 + cave.chamberFact(chamber, what);
            }
        }
        for (int passage = 0; passage < cave.passages; passage++) {
            for (int what = 0; what < PASSAGE_FACTS; what++) {
                d = d * 31 + cave.passageFact(passage, what);
            }
        }
        for (int index = 0; index < latest.kept; index++) {
            for (int what = 0; what < HEARD_FACTS; what++) {
                d = d * 31 + latest.heardFact(index, what);
            }
        }
        return d * 31 + (latest.cameInOrder() ? 1 : 0);
    }

    private int countFact(int what) {
        switch (what) {
            case 0:
                return cave.chambers;
            case 1:
                return cave.passages;
            case 2:
                return cave.openPassages();
            case 3:
                return cave.clappers();
            case 4:
                return cave.water;
            case 5:
                return ear;
            case 6:
                return wordsSaid;
            case 7:
                return latestWord;
            case 8:
                return latest.kept;
            default:
                return latest.counted;
        }
    }

    private boolean wouldComeInOrder(int word, int beat) {
        sound.runThrough(word, beat, ear, trial);
        return trial.cameInOrder();
    }

    private static boolean isWithin(int number, int least, int most) {
        return least <= number && number <= most;
    }

    private static boolean isWord(int word) {
        if (!isWithin(word, 1, MOST_WORD)) {
            return false;
        }
        for (int rest = word; rest > 0; rest /= 10) {
            if (rest % 10 == 0) {
                return false;
            }
        }
        return true;
    }

    private static int placesOf(int word) {
        int places = 0;
        for (int rest = word; rest > 0 && places < MOST_PLACES; rest /= 10) {
            places++;
        }
        return places;
    }

    private static void requireIndex(boolean holds) {
        if (!holds) {
            throw new IndexOutOfBoundsException("there is no such one");
        }
    }

    private static void requireArgument(boolean holds) {
        if (!holds) {
            throw new IllegalArgumentException("an argument is not what it may be");
        }
    }

    private static void requireWordAndBeat(int word, int beat) {
        requireArgument(isWord(word));
        requireArgument(isWithin(beat, 1, MOST_BEAT));
    }

    /** The chambers with their clappers, the passages, and the water. */
    private static final class Cave {
        private int chambers;
        private final int[] wall;
        private final int[] height;
        private final int[] bats;
        private final int[] syllable;
        private final int[] delay;
        private final int[] doors;
        private final int[][] passageBehind;
        private int passages;
        private final int[] from;
        private final int[] to;
        private final int[] length;
        private final int[] narrow;
        private int water;
        private final int[] found;

        Cave() {
            wall = new int[MOST_CHAMBERS];
            height = new int[MOST_CHAMBERS];
            bats = new int[MOST_CHAMBERS];
            syllable = new int[MOST_CHAMBERS];
            delay = new int[MOST_CHAMBERS];
            doors = new int[MOST_CHAMBERS];
            passageBehind = new int[MOST_CHAMBERS][MOST_PASSAGES];
            from = new int[MOST_PASSAGES];
            to = new int[MOST_PASSAGES];
            length = new int[MOST_PASSAGES];
            narrow = new int[MOST_PASSAGES];
            found = new int[MOST_CHAMBERS];
            height[0] = MOST_HEIGHT;
            chambers = 1;
            passages = 0;
            water = 0;
        }

        boolean hasChamber(int chamber) {
            return isWithin(chamber, 0, chambers - 1);
        }

        boolean hasPassage(int passage) {
            return isWithin(passage, 0, passages - 1);
        }

        int findChamber(int itsWall, int itsHeight, int itsBats) {
            int chamber = chambers;
            wall[chamber] = itsWall;
            height[chamber] = itsHeight;
            bats[chamber] = itsBats;
            chambers++;
            return chamber;
        }

        int findPassage(int a, int b, int itsLength, int itsNarrow) {
            int passage = passages;
            from[passage] = a;
            to[passage] = b;
            length[passage] = itsLength;
            narrow[passage] = itsNarrow;
            addDoor(a, passage);
            addDoor(b, passage);
            passages++;
            return passage;
        }

        private void addDoor(int chamber, int passage) {
            if (doors[chamber] < MOST_PASSAGES) {
                passageBehind[chamber][doors[chamber]] = passage;
                doors[chamber]++;
            }
        }

        void putClapper(int chamber, int itsSyllable, int itsDelay) {
            syllable[chamber] = itsSyllable;
            // Without a clapper the delay told is 0, whatever the caller named.
            delay[chamber] = itsSyllable == 0 ? 0 : itsDelay;
        }

        boolean isOpen(int passage) {
            return height[from[passage]] >= water && height[to[passage]] >= water;
        }

        int otherEnd(int passage, int chamber) {
            return from[passage] == chamber ? to[passage] : from[passage];
        }

        boolean drowns(int chamber, int strength) {
            // "2 * the bats there and 1" is one amount: just 2 * the bats drowns too, and without bats 0 does.
            return strength < 2 * bats[chamber] + 1;
        }

        int strengthBehind(int passage, int strength) {
            return strength * (90 - 5 * narrow[passage]) / 100;
        }

        int strengthFromWall(int chamber, int strength) {
            return strength * wall[chamber] / 100;
        }

        int openPassages() {
            int open = 0;
            for (int passage = 0; passage < passages; passage++) {
                if (isOpen(passage)) {
                    open++;
                }
            }
            return open;
        }

        int clappers() {
            int standing = 0;
            for (int chamber = 0; chamber < chambers; chamber++) {
                if (syllable[chamber] != 0) {
                    standing++;
                }
            }
            return standing;
        }

        private int openDoors(int chamber) {
            int open = 0;
            for (int door = 0; door < doors[chamber]; door++) {
                if (isOpen(passageBehind[chamber][door])) {
                    open++;
                }
            }
            return open;
        }

        int chamberFact(int chamber, int what) {
            switch (what) {
                case 0:
                    return wall[chamber];
                case 1:
                    return height[chamber];
                case 2:
                    return bats[chamber];
                case 3:
                    return syllable[chamber];
                case 4:
                    return delay[chamber];
                case 5:
                    return doors[chamber];
                default:
                    return openDoors(chamber);
            }
        }

        int passageFact(int passage, int what) {
            switch (what) {
                case 0:
                    return from[passage];
                case 1:
                    return to[passage];
                case 2:
                    return length[passage];
                case 3:
                    return narrow[passage];
                default:
                    return isOpen(passage) ? 1 : 0;
            }
        }

        int shortestWay(int a, int b) {
            Arrays.fill(found, -1);
            found[a] = 0;
            // A shortest way enters each chamber once, so it has fewer passages than there are chambers.
            for (int round = 1; round < chambers; round++) {
                for (int passage = 0; passage < passages; passage++) {
                    if (isOpen(passage)) {
                        shorten(from[passage], to[passage], length[passage]);
                        shorten(to[passage], from[passage], length[passage]);
                    }
                }
            }
            return found[b];
        }

        private void shorten(int here, int there, int step) {
            if (found[here] < 0) {
                return;
            }
            int way = found[here] + step;
            if (found[there] < 0 || way < found[there]) {
                found[there] = way;
            }
        }

        int highestWater(int chamber) {
            Arrays.fill(found, -1);
            found[0] = MOST_HEIGHT;
            for (int round = 1; round < chambers; round++) {
                for (int passage = 0; passage < passages; passage++) {
                    raise(from[passage], to[passage]);
                    raise(to[passage], from[passage]);
                }
            }
            return found[chamber];
        }

        private void raise(int here, int there) {
            int lower = Math.min(height[here], height[there]);
            found[there] = Math.max(found[there], Math.min(found[here], lower));
        }
    }

    /** The comings that are still due, taken out in the order in which they are gone through. */
    private static final class Comings {
        // A coming is one number, which has its time highest and its strength lowest:
        // so the order of the numbers is the order in which comings are gone through.
        private static final int STRENGTH_BITS = 7;
        private static final int PASSAGE_BITS = 5;
        private static final int RUN_BITS = 5;
        private static final int CHAMBER_BITS = 4;
        private static final int PASSAGE_SHIFT = STRENGTH_BITS;
        private static final int RUN_SHIFT = PASSAGE_SHIFT + PASSAGE_BITS;
        private static final int CHAMBER_SHIFT = RUN_SHIFT + RUN_BITS;
        private static final int TIME_SHIFT = CHAMBER_SHIFT + CHAMBER_BITS;

        private final int[] heap;
        private int size;

        Comings() {
            heap = new int[MOST_COMINGS];
            size = 0;
        }

        /** passage is -1 for a coming by none. */
        static int pack(int time, int chamber, int run, int passage, int strength) {
            return time << TIME_SHIFT | chamber << CHAMBER_SHIFT | run << RUN_SHIFT
                    | (passage + 1) << PASSAGE_SHIFT | strength;
        }

        static int timeOf(int coming) {
            return coming >> TIME_SHIFT;
        }

        static int chamberOf(int coming) {
            return coming >> CHAMBER_SHIFT & (1 << CHAMBER_BITS) - 1;
        }

        static int runOf(int coming) {
            return coming >> RUN_SHIFT & (1 << RUN_BITS) - 1;
        }

        static int passageOf(int coming) {
            return (coming >> PASSAGE_SHIFT & (1 << PASSAGE_BITS) - 1) - 1;
        }

        static int strengthOf(int coming) {
            return coming & (1 << STRENGTH_BITS) - 1;
        }

        void clear() {
            size = 0;
        }

        boolean isEmpty() {
            return size == 0;
        }

        void put(int coming) {
            if (size >= heap.length) {
                return;
            }
            int at = size;
            size++;
            while (at > 0 && heap[(at - 1) / 2] > coming) {
                heap[at] = heap[(at - 1) / 2];
                at = (at - 1) / 2;
            }
            heap[at] = coming;
        }

        int takeNext() {
            int next = heap[0];
            if (size > 0) {
                size--;
                sink(heap[size]);
            }
            return next;
        }

        private void sink(int coming) {
            int at = 0;
            int child = 1;
            while (child < size) {
                if (child + 1 < size && heap[child + 1] < heap[child]) {
                    child++;
                }
                if (heap[child] > coming) {
                    break;
                }
                heap[at] = heap[child];
                at = child;
                child = 2 * at + 1;
            }
            heap[at] = coming;
        }
    }

    /** What is kept of what the caller hears of one word. */
    private static final class Echo {
        private final int[] facts;
        private final int[] firstTime;
        private int places;
        private int ear;
        private int kept;
        private int counted;
        private int placesInOrder;
        private int lastTime;

        Echo() {
            facts = new int[MOST_KEPT * HEARD_FACTS];
            firstTime = new int[MOST_PLACES];
            places = 0;
            ear = FIRST_EAR;
            kept = 0;
            counted = 0;
            placesInOrder = 0;
            lastTime = -1;
        }

        void begin(int itsPlaces, int itsEar) {
            places = itsPlaces;
            ear = itsEar;
            kept = 0;
            counted = 0;
            placesInOrder = 0;
            lastTime = -1;
            Arrays.fill(firstTime, -1);
        }

        void hear(int time, int place, int syllable, int strength) {
            if (kept >= MOST_KEPT) {
                return;
            }
            int at = kept * HEARD_FACTS;
            facts[at] = time;
            facts[at + 1] = place;
            facts[at + 2] = syllable;
            facts[at + 3] = strength;
            facts[at + 4] = strength >= ear ? 1 : 0;
            kept++;
            if (strength >= ear) {
                letCount(time, place);
            }
        }

        private void letCount(int time, int place) {
            counted++;
            lastTime = time;
            if (isWithin(place, 0, MOST_PLACES - 1) && firstTime[place] < 0) {
                firstTime[place] = time;
            }
            // Taking the earliest coming for each place leaves the most behind it for the next ones.
            if (place == placesInOrder) {
                placesInOrder++;
            }
        }

        boolean cameInOrder() {
            return places > 0 && placesInOrder == places;
        }

        int heardFact(int index, int what) {
            return facts[index * HEARD_FACTS + what];
        }

        double meanStrength() {
            if (kept == 0) {
                return 0.0;
            }
            int sum = 0;
            for (int index = 0; index < kept; index++) {
                sum += heardFact(index, 3);
            }
            return (double) sum / kept;
        }
    }

    /** The runs of one word through the cave. */
    private static final class Sound {
        private final Cave cave;
        private final Comings comings;
        private final int[] syllable;
        private final int[] place;
        private final long[] passagesUsed;
        private int runs;
        private int clappersSetOff;

        Sound(Cave itsCave) {
            cave = itsCave;
            comings = new Comings();
            syllable = new int[MOST_RUNS];
            place = new int[MOST_RUNS];
            passagesUsed = new long[MOST_RUNS];
            runs = 0;
            clappersSetOff = 0;
        }

        void runThrough(int word, int beat, int ear, Echo echo) {
            int places = placesOf(word);
            echo.begin(places, ear);
            begin(word, places, beat);
            for (int gone = 0; gone < MOST_COMINGS && !comings.isEmpty(); gone++) {
                come(comings.takeNext(), echo);
            }
        }

        private void begin(int word, int places, int beat) {
            comings.clear();
            runs = 0;
            clappersSetOff = 0;
            int unit = 1;
            for (int later = 1; later < places; later++) {
                unit *= 10;
            }
            for (int said = 0; said < places && unit > 0; said++) {
                startRun(word / unit % 10, said, 0, said * beat, CALLER_STRENGTH);
                unit /= 10;
            }
        }

        private void startRun(int itsSyllable, int itsPlace, int chamber, int time, int strength) {
            if (runs >= MOST_RUNS) {
                return;
            }
            syllable[runs] = itsSyllable;
            place[runs] = itsPlace;
            passagesUsed[runs] = 0L;
            comings.put(Comings.pack(time, chamber, runs, -1, strength));
            runs++;
        }

        private void come(int coming, Echo echo) {
            int time = Comings.timeOf(coming);
            int chamber = Comings.chamberOf(coming);
            int run = Comings.runOf(coming);
            int passage = Comings.passageOf(coming);
            int strength = Comings.strengthOf(coming);
            if (run >= runs || !cave.hasChamber(chamber) || passage >= cave.passages) {
                return;
            }
            if (chamber == 0 && passage >= 0) {
                echo.hear(time, place[run], syllable[run], strength);
            }
            if (cave.drowns(chamber, strength)) {
                return;
            }
            setOffClapper(chamber, run, time);
            goOn(chamber, run, passage, time, strength);
            if (chamber != 0 && passage >= 0) {
                goInto(passage, chamber, run, time, cave.strengthFromWall(chamber, strength));
            }
        }

        private void setOffClapper(int chamber, int run, int time) {
            int bit = 1 << chamber;
            if (cave.syllable[chamber] != syllable[run] || (clappersSetOff & bit) != 0) {
                return;
            }
            int later = time + cave.delay[chamber];
            if (later > LAST_TIME) {
                return;
            }
            clappersSetOff |= bit;
            startRun(syllable[run], place[run], chamber, later, CLAPPER_STRENGTH);
        }

        private void goOn(int chamber, int run, int cameBy, int time, int strength) {
            for (int door = 0; door < cave.doors[chamber]; door++) {
                int passage = cave.passageBehind[chamber][door];
                if (passage != cameBy && cave.isOpen(passage)) {
                    goInto(passage, chamber, run, time, strength);
                }
            }
        }

        private void goInto(int passage, int chamber, int run, int time, int strength) {
            int later = time + cave.length[passage];
            long use = 1L << 2 * passage + (cave.from[passage] == chamber ? 0 : 1);
            if (later > LAST_TIME || (passagesUsed[run] & use) != 0L) {
                return;
            }
            passagesUsed[run] |= use;
            int there = cave.otherEnd(passage, chamber);
            comings.put(Comings.pack(later, there, run, passage, cave.strengthBehind(passage, strength)));
        }
    }
}
