/** Caves that several tests use, and what a cave answers. */
final class Caves {
    interface Maker {
        EchoCave make();
    }

    private Caves() {
    }

    /** One chamber behind one passage. */
    static EchoCave one(int wall, int length, int narrow) {
        EchoCave cave = new EchoCave();
        cave.addChamber(wall, 30, 0);
        cave.addPassage(0, 1, length, narrow);
        return cave;
    }

    /** A chamber with a wall of 100 behind so many passages: each syllable is heard by each of them once. */
    static EchoCave side(int passages) {
        EchoCave cave = one(100, 1, 0);
        for (int passage = 1; passage < passages; passage++) {
            cave.addPassage(0, 1, 1, 0);
        }
        return cave;
    }

    /** Four chambers, four passages, a clapper, some water, and a word. */
    static EchoCave ordinary() {
        EchoCave cave = new EchoCave();
        cave.addChamber(50, 20, 0);
        cave.addChamber(90, 10, 2);
        cave.addChamber(0, 30, 0);
        cave.addPassage(0, 1, 3, 0);
        cave.addPassage(1, 2, 2, 4);
        cave.addPassage(2, 0, 5, 0);
        cave.addPassage(1, 3, 1, 9);
        cave.setClapper(3, 2, 4);
        cave.setWater(5);
        cave.setEar(4);
        cave.setBats(2, 3);
        cave.say(121, 4);
        return cave;
    }

    /** As many chambers, passages and clappers as there can be; nothing was said. */
    static EchoCave fullAndSilent() {
        EchoCave cave = new EchoCave();
        for (int chamber = 1; chamber <= 11; chamber++) {
            cave.addChamber(100, 30, 0);
            cave.addPassage(0, chamber, 1, 0);
            cave.setClapper(chamber, 9, 0);
        }
        for (int passage = 11; passage < 18; passage++) {
            cave.addPassage(0, 1, 1, 0);
        }
        return cave;
    }

    /** The same with as much heard as is kept, all of which counts. */
    static EchoCave full() {
        EchoCave cave = fullAndSilent();
        cave.setWater(30);
        cave.setEar(50);
        cave.say(999999, 1);
        return cave;
    }

    /**
     * Nine chambers behind a narrow passage each, and bats with the caller that drown what comes there.
     * A word of six is heard 54 times with the strength 0, and what a clapper says once, with the strength 27.
     * The first of the chambers have a clapper of the syllable of their number, with a delay of 20.
     */
    static EchoCave nineNarrow(int clappers) {
        EchoCave cave = new EchoCave();
        cave.setBats(0, 20);
        for (int chamber = 1; chamber <= 9; chamber++) {
            cave.addChamber(0, 30, 0);
            cave.addPassage(0, chamber, 1, 9);
        }
        for (int chamber = 1; chamber <= clappers; chamber++) {
            cave.setClapper(chamber, chamber, 20);
        }
        return cave;
    }

    /**
     * A ring 0 - 1 - 2 - 3 - 4 - 5 - 0. The sixth syllable of 111112, with the beat 20, is said at 100,
     * and anew at 129 in 1, at 158 in 2 and at 187 in 3, from where it goes to 4, 5 and 0.
     */
    static EchoCave late(int lengthTo4, int delayOf4, int lengthTo0) {
        EchoCave cave = new EchoCave();
        int[] bats = {0, 12, 12, 12, 0};
        for (int b : bats) {
            cave.addChamber(0, 30, b);
        }
        cave.addPassage(0, 1, 9, 9);
        cave.addPassage(1, 2, 9, 9);
        cave.addPassage(2, 3, 9, 9);
        cave.addPassage(3, 4, lengthTo4, 9);
        cave.addPassage(4, 5, 4, 9);
        cave.addPassage(5, 0, lengthTo0, 9);
        for (int chamber = 1; chamber <= 3; chamber++) {
            cave.setClapper(chamber, 2, 20);
        }
        cave.setClapper(4, 2, delayOf4);
        return cave;
    }

    /** What the cave answers now, in some thirty calls; digest() tells the cave and what was heard. */
    static String answers(EchoCave cave) {
        StringBuilder told = new StringBuilder();
        told.append(cave.digest()).append(' ').append(cave.inOrder()).append(' ').append(cave.mean());
        for (int place = 0; place <= 6; place++) {
            int there = place;
            told.append(' ').append(Checks.outcome(() -> cave.first(there)));
        }
        int last = cave.count(0) - 1;
        int kept = cave.count(8);
        told.append(' ').append(Checks.outcome(() -> cave.heard(kept, 0)));
        for (int what = 0; what < 4; what++) {
            told.append(' ').append(cave.would(12, 3, what));
        }
        told.append(' ').append(cave.advise(12, 3, 1, 0)).append(' ').append(cave.longest(9, 1));
        told.append(' ').append(cave.quickest(12));
        told.append(' ').append(cave.way(0, last)).append(' ').append(cave.highest(last));
        return told.toString();
    }

    /** What the cave answers to calls that change it. */
    static String answersOfChanges(EchoCave cave) {
        StringBuilder told = new StringBuilder();
        int last = cave.count(0) - 1;
        told.append(cave.setWater(1)).append(' ').append(cave.setEar(2)).append(' ').append(cave.setBats(last, 1));
        told.append(' ').append(Checks.outcome(() -> cave.setClapper(last, 1, 3)));
        told.append(' ').append(Checks.outcome(() -> cave.addChamber(70, 30, 0)));
        told.append(' ').append(Checks.outcome(() -> cave.addPassage(0, cave.count(0) - 1, 1, 1)));
        told.append(' ').append(cave.say(21, 2)).append(' ').append(answers(cave));
        return told.toString();
    }
}
