import java.util.ArrayList;
import java.util.Comparator;
import java.util.HashSet;
import java.util.List;
import java.util.PriorityQueue;
import java.util.Set;

/** The document again, told as directly as it can be and with no thought of cost, to compare EchoCave with. */
final class Model {
    static final class Chamber {
        int wall, height, bats, syllable, delay;
    }

    static final class Passage {
        int a, b, length, narrow;
    }

    static final class Run {
        int number, place, syllable;
        Set<String> gone = new HashSet<>();
    }

    static final class Coming {
        int time, chamber, passage, strength;
        Run run;
    }

    static final class Heard {
        int[] facts;
    }

    static final class Outcome {
        List<Heard> kept = new ArrayList<>();
        int runs, places;

        List<Heard> counted() {
            List<Heard> counted = new ArrayList<>();
            for (Heard one : kept) {
                if (one.facts[4] == 1) {
                    counted.add(one);
                }
            }
            return counted;
        }

        boolean inOrder() {
            return places > 0 && inOrderFrom(counted(), 0, 0);
        }

        private boolean inOrderFrom(List<Heard> counted, int at, int place) {
            if (place == places) {
                return true;
            }
            for (int i = at; i < counted.size(); i++) {
                if (counted.get(i).facts[1] == place) {
                    return inOrderFrom(counted, i + 1, place + 1);
                }
            }
            return false;
        }
    }

    final List<Chamber> chambers = new ArrayList<>();
    final List<Passage> passages = new ArrayList<>();
    int water = 0, ear = 5, said = 0, latestWord = 0;
    Outcome latest = new Outcome();

    Model() {
        Chamber first = new Chamber();
        first.height = 30;
        chambers.add(first);
    }

    private static void index(boolean holds) {
        if (!holds) {
            throw new IndexOutOfBoundsException();
        }
    }

    private static void argument(boolean holds) {
        if (!holds) {
            throw new IllegalArgumentException();
        }
    }

    private static void state(boolean holds) {
        if (!holds) {
            throw new IllegalStateException();
        }
    }

    private void chamberIs(int chamber) {
        index(chamber >= 0 && chamber < chambers.size());
    }

    private static void wordIs(int word) {
        argument(String.valueOf(word).matches("[1-9]{1,6}"));
    }

    private static void beatIs(int beat) {
        argument(beat >= 1 && beat <= 20);
    }

    int addChamber(int wall, int height, int bats) {
        argument(wall >= 0 && wall <= 100 && height >= 0 && height <= 30 && bats >= 0 && bats <= 20);
        state(chambers.size() < 12);
        Chamber one = new Chamber();
        one.wall = wall;
        one.height = height;
        one.bats = bats;
        chambers.add(one);
        return chambers.size() - 1;
    }

    int addPassage(int a, int b, int length, int narrow) {
        chamberIs(a);
        chamberIs(b);
        argument(a != b && length >= 1 && length <= 9 && narrow >= 0 && narrow <= 9);
        state(passages.size() < 18);
        Passage one = new Passage();
        one.a = a;
        one.b = b;
        one.length = length;
        one.narrow = narrow;
        passages.add(one);
        return passages.size() - 1;
    }

    int setWater(int water) {
        argument(water >= 0 && water <= 30);
        int before = this.water;
        this.water = water;
        return before;
    }

    int setBats(int chamber, int bats) {
        chamberIs(chamber);
        argument(bats >= 0 && bats <= 20);
        int before = chambers.get(chamber).bats;
        chambers.get(chamber).bats = bats;
        return before;
    }

    int setClapper(int chamber, int syllable, int delay) {
        chamberIs(chamber);
        argument(chamber != 0 && syllable >= 0 && syllable <= 9 && delay >= 0 && delay <= 20);
        Chamber one = chambers.get(chamber);
        int before = one.syllable;
        one.syllable = syllable;
        one.delay = syllable == 0 ? 0 : delay;
        return before;
    }

    int setEar(int ear) {
        argument(ear >= 1 && ear <= 50);
        int before = this.ear;
        this.ear = ear;
        return before;
    }

    boolean open(Passage passage, int water) {
        return chambers.get(passage.a).height >= water && chambers.get(passage.b).height >= water;
    }

    int chamber(int chamber, int what) {
        chamberIs(chamber);
        index(what >= 0 && what <= 6);
        Chamber one = chambers.get(chamber);
        int there = 0, open = 0;
        for (Passage passage : passages) {
            if (passage.a == chamber || passage.b == chamber) {
                there++;
                open += open(passage, water) ? 1 : 0;
            }
        }
        return new int[] {one.wall, one.height, one.bats, one.syllable, one.delay, there, open}[what];
    }

    int passage(int passage, int what) {
        index(passage >= 0 && passage < passages.size());
        index(what >= 0 && what <= 4);
        Passage one = passages.get(passage);
        return new int[] {one.a, one.b, one.length, one.narrow, open(one, water) ? 1 : 0}[what];
    }

    Outcome sounded(int word, int beat) {
        Outcome outcome = new Outcome();
        String syllables = String.valueOf(word);
        outcome.places = syllables.length();
        PriorityQueue<Coming> due = new PriorityQueue<>(Comparator.<Coming>comparingInt(c -> c.time)
                .thenComparingInt(c -> c.chamber).thenComparingInt(c -> c.run.number)
                .thenComparingInt(c -> c.passage));
        for (int place = 0; place < outcome.places; place++) {
            start(due, outcome, place, syllables.charAt(place) - '0', 0, place * beat, 100);
        }
        Set<Integer> setOff = new HashSet<>();
        while (!due.isEmpty()) {
            Coming c = due.poll();
            Chamber here = chambers.get(c.chamber);
            if (c.chamber == 0 && c.passage >= 0 && outcome.kept.size() < 60) {
                Heard heard = new Heard();
                heard.facts = new int[] {c.time, c.run.place, c.run.syllable, c.strength, c.strength >= ear ? 1 : 0};
                outcome.kept.add(heard);
            }
            if (c.strength < 2 * here.bats + 1) {
                continue;
            }
            if (here.syllable == c.run.syllable && !setOff.contains(c.chamber) && c.time + here.delay <= 200) {
                setOff.add(c.chamber);
                start(due, outcome, c.run.place, c.run.syllable, c.chamber, c.time + here.delay, 60);
            }
            for (int p = 0; p < passages.size(); p++) {
                Passage passage = passages.get(p);
                boolean there = passage.a == c.chamber || passage.b == c.chamber;
                if (there && p != c.passage && open(passage, water)) {
                    go(due, c, p, c.strength);
                }
            }
            if (c.passage >= 0 && c.chamber != 0) {
                go(due, c, c.passage, c.strength * here.wall / 100);
            }
        }
        return outcome;
    }

    private static void start(PriorityQueue<Coming> due, Outcome outcome, int place, int syllable, int chamber,
            int time, int strength) {
        Coming coming = new Coming();
        coming.run = new Run();
        coming.run.number = outcome.runs++;
        coming.run.place = place;
        coming.run.syllable = syllable;
        coming.chamber = chamber;
        coming.passage = -1;
        coming.time = time;
        coming.strength = strength;
        due.add(coming);
    }

    private void go(PriorityQueue<Coming> due, Coming c, int p, int strength) {
        Passage passage = passages.get(p);
        Coming next = new Coming();
        next.time = c.time + passage.length;
        if (next.time > 200 || !c.run.gone.add(p + " out of " + c.chamber)) {
            return;
        }
        next.run = c.run;
        next.passage = p;
        next.chamber = passage.a == c.chamber ? passage.b : passage.a;
        next.strength = strength * (90 - 5 * passage.narrow) / 100;
        due.add(next);
    }

    int say(int word, int beat) {
        wordIs(word);
        beatIs(beat);
        latest = sounded(word, beat);
        said++;
        latestWord = word;
        return latest.counted().size();
    }

    int heard(int index, int what) {
        index(index >= 0 && index < latest.kept.size() && what >= 0 && what <= 4);
        return latest.kept.get(index).facts[what];
    }

    boolean inOrder() {
        return latest.inOrder();
    }

    int first(int place) {
        index(place >= 0 && place < latest.places);
        for (Heard one : latest.counted()) {
            if (one.facts[1] == place) {
                return one.facts[0];
            }
        }
        return -1;
    }

    int count(int what) {
        index(what >= 0 && what <= 9);
        int open = 0, clappers = 0;
        for (Passage passage : passages) {
            open += open(passage, water) ? 1 : 0;
        }
        for (Chamber chamber : chambers) {
            clappers += chamber.syllable != 0 ? 1 : 0;
        }
        return new int[] {chambers.size(), passages.size(), open, clappers, water, ear, said, latestWord,
            latest.kept.size(), latest.counted().size()}[what];
    }

    int would(int word, int beat, int what) {
        wordIs(word);
        beatIs(beat);
        index(what >= 0 && what <= 3);
        Outcome outcome = sounded(word, beat);
        List<Heard> counted = outcome.counted();
        int last = counted.isEmpty() ? -1 : counted.get(counted.size() - 1).facts[0];
        return new int[] {counted.size(), outcome.inOrder() ? 1 : 0, last, outcome.runs}[what];
    }

    int advise(int word, int beat, int syllable, int delay) {
        wordIs(word);
        beatIs(beat);
        argument(syllable >= 1 && syllable <= 9 && delay >= 0 && delay <= 20);
        int advised = -1;
        for (int chamber = chambers.size() - 1; chamber >= 1; chamber--) {
            Chamber kept = chambers.get(chamber);
            Chamber other = new Chamber();
            other.wall = kept.wall;
            other.height = kept.height;
            other.bats = kept.bats;
            other.syllable = syllable;
            other.delay = delay;
            chambers.set(chamber, other);
            advised = sounded(word, beat).inOrder() ? chamber : advised;
            chambers.set(chamber, kept);
        }
        return advised;
    }

    int longest(int syllable, int beat) {
        argument(syllable >= 1 && syllable <= 9);
        beatIs(beat);
        for (int times = 6; times >= 1; times--) {
            int word = Integer.parseInt(String.valueOf(syllable).repeat(times));
            if (sounded(word, beat).inOrder()) {
                return times;
            }
        }
        return 0;
    }

    int quickest(int word) {
        wordIs(word);
        for (int beat = 1; beat <= 20; beat++) {
            if (sounded(word, beat).inOrder()) {
                return beat;
            }
        }
        return -1;
    }

    /** Over all ways that enter no chamber twice; -1 without one. */
    private int shortest(int here, int b, int water, Set<Integer> entered) {
        if (here == b) {
            return 0;
        }
        int best = -1;
        entered.add(here);
        for (Passage passage : passages) {
            int there = passage.a == here ? passage.b : passage.b == here ? passage.a : -1;
            if (there >= 0 && open(passage, water) && !entered.contains(there)) {
                int rest = shortest(there, b, water, entered);
                best = rest >= 0 && (best < 0 || rest + passage.length < best) ? rest + passage.length : best;
            }
        }
        entered.remove(here);
        return best;
    }

    int way(int a, int b) {
        chamberIs(a);
        chamberIs(b);
        return shortest(a, b, water, new HashSet<>());
    }

    private boolean reachable(int chamber, int water) {
        Set<Integer> reached = new HashSet<>();
        reached.add(0);
        for (int round = 0; round < chambers.size(); round++) {
            for (Passage passage : passages) {
                if (open(passage, water) && (reached.contains(passage.a) || reached.contains(passage.b))) {
                    reached.add(passage.a);
                    reached.add(passage.b);
                }
            }
        }
        return reached.contains(chamber);
    }

    int highest(int chamber) {
        chamberIs(chamber);
        for (int water = 30; water >= 0; water--) {
            if (reachable(chamber, water)) {
                return water;
            }
        }
        return -1;
    }

    double mean() {
        double sum = 0;
        for (Heard one : latest.kept) {
            sum += one.facts[3];
        }
        return latest.kept.isEmpty() ? 0 : sum / latest.kept.size();
    }

    long digest() {
        List<Integer> told = new ArrayList<>();
        for (int what = 0; what <= 9; what++) {
            told.add(count(what));
        }
        for (int chamber = 0; chamber < chambers.size(); chamber++) {
            for (int what = 0; what <= 6; what++) {
                told.add(chamber(chamber, what));
            }
        }
        for (int passage = 0; passage < passages.size(); passage++) {
            for (int what = 0; what <= 4; what++) {
                told.add(passage(passage, what));
            }
        }
        for (Heard one : latest.kept) {
            for (int fact : one.facts) {
                told.add(fact);
            }
        }
        told.add(inOrder() ? 1 : 0);
        long d = 691;
        for (int x : told) {
            d = d * 31 + x;
        }
        return d;
    }
}
