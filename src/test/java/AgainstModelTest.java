/** Long rows of calls, the same ones each time, on an EchoCave and on the Model: each has to answer as the other. */
public final class AgainstModelTest {
    private static final int ROWS = 800;
    // What an object answers to later calls is free.
    private static final int MOST_CALLS = 512;

    private final Checks checks = new Checks();
    private long seed;
    private EchoCave cave;
    private Model model;
    private int row;
    private int calls;

    public static void main(String[] args) {
        AgainstModelTest test = new AgainstModelTest();
        for (int row = 0; row < ROWS; row++) {
            test.goThrough(row);
        }
        test.checks.end();
    }

    private void goThrough(int which) {
        row = which;
        calls = 0;
        seed = row * 7919L + 17;
        cave = new EchoCave();
        model = new Model();
        // Rows differ in how large and how loud the cave is, since a weak echo hides most of what goes on.
        int chambers = between(0, 11);
        int passages = between(0, 18);
        boolean loud = row % 2 == 0;
        for (int i = 0; i < chambers; i++) {
            int wall = loud ? between(70, 100) : between(0, 100);
            int height = between(0, 30);
            int bats = loud ? between(0, 3) : between(0, 20);
            both("addChamber", () -> cave.addChamber(wall, height, bats), () -> model.addChamber(wall, height, bats));
        }
        for (int i = 0; i < passages; i++) {
            passage(loud);
        }
        while (calls < MOST_CALLS) {
            call(between(0, 22));
        }
    }

    private int between(int least, int most) {
        seed = seed * 6364136223846793005L + 1442695040888963407L;
        return least + (int) ((seed >>> 33) % (most - least + 1));
    }

    /** Mostly within the bounds, now and then beyond them. */
    private int near(int least, int most) {
        int die = between(0, 39);
        if (die == 0) {
            return least - 1;
        }
        if (die == 1) {
            return most + 1;
        }
        if (die == 2) {
            return between(0, 1) == 0 ? Integer.MIN_VALUE : Integer.MAX_VALUE;
        }
        return between(least, Math.max(least, most));
    }

    private int aChamber() {
        return near(0, model.chambers.size() - 1);
    }

    private int aWord() {
        int kinds = between(1, 3);
        int word = 0;
        for (int places = between(1, 6); places > 0; places--) {
            word = word * 10 + between(1, kinds);
        }
        return between(0, 29) == 0 ? near(0, 1999999) : word;
    }

    private void passage(boolean loud) {
        int a = aChamber();
        int b = aChamber();
        int length = near(1, 9);
        int narrow = loud ? near(0, 2) : near(0, 9);
        both("addPassage", () -> cave.addPassage(a, b, length, narrow), () -> model.addPassage(a, b, length, narrow));
    }

    private void call(int which) {
        if (which < 10) {
            callOfTheCave(which);
        } else {
            callOfWords(which);
        }
        both("digest", () -> cave.digest(), () -> model.digest());
    }

    private void callOfTheCave(int which) {
        int chamber = aChamber();
        int x = near(0, 20);
        int what = near(0, 6);
        int syllable = near(0, 3);
        int water = between(0, 3) > 0 ? 0 : near(0, 30);
        int ear = near(1, 50);
        int wall = near(0, 100);
        int passage = near(0, model.passages.size() - 1);
        switch (which) {
            case 0:
                both("setWater", () -> cave.setWater(water), () -> model.setWater(water));
                break;
            case 1:
                both("setBats", () -> cave.setBats(chamber, x), () -> model.setBats(chamber, x));
                break;
            case 2:
            case 3:
                both("setClapper", () -> cave.setClapper(chamber, syllable, x),
                        () -> model.setClapper(chamber, syllable, x));
                break;
            case 4:
                both("setEar", () -> cave.setEar(ear), () -> model.setEar(ear));
                break;
            case 5:
                both("chamber", () -> cave.chamber(chamber, what), () -> model.chamber(chamber, what));
                break;
            case 6:
                both("passage", () -> cave.passage(passage, what), () -> model.passage(passage, what));
                break;
            case 7:
                // Seldom, so that the cave does not fill at once.
                if (between(0, 3) == 0) {
                    both("addChamber", () -> cave.addChamber(wall, water, x), () -> model.addChamber(wall, water, x));
                }
                break;
            case 8:
                passage(false);
                break;
            default:
                both("mean", () -> cave.mean(), () -> model.mean());
                break;
        }
    }

    private void callOfWords(int which) {
        int word = aWord();
        int beat = near(1, 20);
        int what = near(0, 9);
        int syllable = near(1, 3);
        int delay = near(0, 20);
        int a = aChamber();
        int b = aChamber();
        int index = near(0, model.latest.kept.size() - 1);
        int place = near(0, model.latest.places - 1);
        int part = near(0, 4);
        int kind = near(0, 3);
        switch (which) {
            case 10:
            case 11:
            case 12:
                both("say", () -> cave.say(word, beat), () -> model.say(word, beat));
                break;
            case 13:
                both("heard", () -> cave.heard(index, part), () -> model.heard(index, part));
                break;
            case 14:
                both("inOrder", () -> cave.inOrder(), () -> model.inOrder());
                break;
            case 15:
                both("first", () -> cave.first(place), () -> model.first(place));
                break;
            case 16:
                both("count", () -> cave.count(what), () -> model.count(what));
                break;
            case 17:
                both("would", () -> cave.would(word, beat, kind), () -> model.would(word, beat, kind));
                break;
            case 18:
                both("advise", () -> cave.advise(word, beat, syllable, delay),
                        () -> model.advise(word, beat, syllable, delay));
                break;
            case 19:
                both("longest", () -> cave.longest(syllable, beat), () -> model.longest(syllable, beat));
                break;
            case 20:
                both("quickest", () -> cave.quickest(word), () -> model.quickest(word));
                break;
            case 21:
                both("way", () -> cave.way(a, b), () -> model.way(a, b));
                break;
            default:
                both("highest", () -> cave.highest(a), () -> model.highest(a));
                break;
        }
    }

    private void both(String call, Checks.Call ofCave, Checks.Call ofModel) {
        if (calls >= MOST_CALLS) {
            return;
        }
        calls++;
        checks.is("row " + row + ", call " + calls + ", " + call, Checks.outcome(ofCave), Checks.outcome(ofModel));
    }
}
