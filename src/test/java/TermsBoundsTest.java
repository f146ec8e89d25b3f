import java.util.ArrayList;
import java.util.List;

/** A test for each sentence of Terms that names a boundary; the answers due are worked out by hand. */
public final class TermsBoundsTest {
    private final Checks checks = new Checks();

    public static void main(String[] args) {
        TermsBoundsTest test = new TermsBoundsTest();
        test.usedFor512Calls();
        test.cutTowards0();
        test.callerStandsInTheChamber0();
        test.wallsGiveBackNothingToAll();
        test.openIfNeitherHeightIsLessThanTheWater();
        test.waterStandsAt0AtFirst();
        test.passagesGoInBothDirections();
        test.passagesAre1To9Long();
        test.passagesAreNarrowBy0To9();
        test.severalPassagesBetweenTheSame();
        test.clappersOfEachSyllableAndDelay();
        test.clappersInEachChamberBut0();
        test.wordsOfOneAndOfSix();
        test.beatsOf1To20();
        test.eachPassageOnceInEachDirection();
        test.notHeardWithoutAPassage();
        test.heardAheadOfTheBats();
        test.batsAtEachStrength();
        test.whatTheBatsDrownSetsOffNoClapper();
        test.setOffOncePerWord();
        test.notBackByTheOneItCameBy();
        test.closedPassagesLetNothingIn();
        test.comesAt200ButNotLater();
        test.saysAt200ButNotLater();
        test.orderByTime();
        test.orderByChamberAheadOfRun();
        test.orderOfManyThatAreDueAtOnce();
        test.asManyComingsAsThereCanBe();
        test.clappersAreNumberedAsTheyAreSetOff();
        test.sixtyAreKept();
        test.sixtyAreKeptOfWhatWouldBe();
        test.sixtyAreKeptAsAClapperIsAdvised();
        test.sixtyAreKeptOfTheLongest();
        test.strengthOfTheEarCounts();
        test.inOrderOneBehindTheOther();
        test.placeOfTheSyllableThatSetItOff();
        test.checks.end();
    }

    private static int[] row(int... facts) {
        return facts;
    }

    private void wouldIs(EchoCave cave, int word, int beat, int... due) {
        for (int what = 0; what < due.length; what++) {
            checks.is("would(" + word + ", " + beat + ", " + what + ")", cave.would(word, beat, what), due[what]);
        }
    }

    private void usedFor512Calls() {
        EchoCave cave = Caves.one(100, 1, 0);
        for (int call = 3; call < 512; call++) {
            checks.is("say(9, 20), the call " + call, cave.say(9, 20), 1);
        }
        checks.is("count(6), the 512th call", cave.count(6), 509);
    }

    private void cutTowards0() {
        // Of 90 the wall gives back 0, 0.9, 1.8, 89.1 and 90, each cut; then the passage leaves 90 of 100, cut.
        int[][] wide = {{0, 0}, {1, 0}, {2, 0}, {3, 1}, {99, 80}, {100, 81}};
        for (int[] w : wide) {
            EchoCave cave = Caves.one(w[0], 1, 0);
            cave.say(1, 1);
            checks.heardIs(cave, row(2, 0, 1, w[1], w[1] >= 5 ? 1 : 0));
        }
        // Of 45 it gives back 44.55 and 45; the passage leaves 19.8 of 44, and 20.25 of 45.
        int[][] narrow = {{99, 19}, {100, 20}};
        for (int[] n : narrow) {
            EchoCave cave = Caves.one(n[0], 1, 9);
            cave.say(1, 1);
            checks.heardIs(cave, row(2, 0, 1, n[1], 1));
        }
    }

    private void callerStandsInTheChamber0() {
        // What runs between other chambers only is never heard.
        EchoCave cave = new EchoCave();
        cave.addChamber(100, 30, 0);
        cave.addChamber(100, 30, 0);
        cave.addPassage(1, 2, 1, 0);
        cave.setClapper(1, 1, 0);
        checks.is("say(1, 1) without a passage at 0", cave.say(1, 1), 0);
        checks.is("count(8)", cave.count(8), 0);
        checks.is("would(1, 1, 3)", cave.would(1, 1, 3), 1);
        cave.addPassage(1, 0, 1, 0);
        checks.is("say(1, 1) with one", cave.say(1, 1), 2);
    }

    private void wallsGiveBackNothingToAll() {
        EchoCave cave = new EchoCave();
        cave.addChamber(0, 30, 0);
        cave.addChamber(100, 30, 0);
        cave.addPassage(0, 1, 1, 0);
        cave.addPassage(0, 2, 1, 0);
        checks.is("say(1, 1) to the walls of 0 and 100", cave.say(1, 1), 1);
        checks.heardIs(cave, row(2, 0, 1, 0, 0), row(2, 0, 1, 81, 1));
    }

    private void openIfNeitherHeightIsLessThanTheWater() {
        for (int height = 0; height <= 30; height++) {
            EchoCave cave = new EchoCave();
            cave.addChamber(100, height, 0);
            cave.addChamber(100, 30, 0);
            cave.addPassage(0, 1, 1, 0);
            cave.addPassage(2, 1, 1, 0);
            cave.addPassage(0, 2, 1, 0);
            atTheWater(cave, height, 3);
            if (height < 30) {
                atTheWater(cave, height + 1, 1);
            }
        }
    }

    private void atTheWater(EchoCave cave, int water, int open) {
        cave.setWater(water);
        String at = " at the water " + water;
        checks.is("count(2)" + at, cave.count(2), open);
        for (int passage = 0; passage < 3; passage++) {
            checks.is("passage(" + passage + ", 4)" + at, cave.passage(passage, 4), open == 3 || passage == 2 ? 1 : 0);
        }
        checks.is("chamber(0, 6)" + at, cave.chamber(0, 6), open == 3 ? 2 : 1);
        checks.is("chamber(1, 6)" + at, cave.chamber(1, 6), open == 3 ? 2 : 0);
        checks.is("chamber(2, 6)" + at, cave.chamber(2, 6), open == 3 ? 2 : 1);
        checks.is("way(0, 1)" + at, cave.way(0, 1), open == 3 ? 1 : -1);
        checks.is("way(1, 2)" + at, cave.way(1, 2), open == 3 ? 1 : -1);
        checks.is("say(1, 1)" + at, cave.say(1, 1), open == 3 ? 2 : 1);
    }

    private void waterStandsAt0AtFirst() {
        EchoCave cave = new EchoCave();
        cave.addChamber(100, 0, 0);
        cave.addPassage(0, 1, 1, 0);
        checks.is("passage(0, 4) of the height 0", cave.passage(0, 4), 1);
        checks.is("say(1, 1) to the height 0", cave.say(1, 1), 1);
        checks.is("setWater(1) at first", cave.setWater(1), 0);
        checks.is("passage(0, 4) of the height 0 at 1", cave.passage(0, 4), 0);
        checks.is("setWater(0)", cave.setWater(0), 1);
        checks.is("passage(0, 4) of the height 0 at 0 again", cave.passage(0, 4), 1);
    }

    private void passagesGoInBothDirections() {
        for (int from = 0; from <= 1; from++) {
            EchoCave cave = new EchoCave();
            cave.addChamber(100, 30, 0);
            cave.addPassage(from, 1 - from, 4, 3);
            cave.say(5, 1);
            // 100, 75, 56.
            checks.heardIs(cave, row(8, 0, 5, 56, 1));
            checks.is("way(0, 1)", cave.way(0, 1), 4);
            checks.is("way(1, 0)", cave.way(1, 0), 4);
        }
    }

    private void passagesAre1To9Long() {
        for (int length = 1; length <= 9; length++) {
            EchoCave cave = Caves.one(100, length, 0);
            cave.say(1, 1);
            checks.heardIs(cave, row(2 * length, 0, 1, 81, 1));
        }
    }

    private void passagesAreNarrowBy0To9() {
        // 90 of 90, 85 of 85, .. 45 of 45, each cut.
        int[] due = {81, 72, 64, 56, 49, 42, 36, 30, 25, 20};
        for (int narrow = 0; narrow <= 9; narrow++) {
            EchoCave cave = Caves.one(100, 1, narrow);
            cave.say(1, 1);
            checks.heardIs(cave, row(2, 0, 1, due[narrow], 1));
        }
    }

    private void severalPassagesBetweenTheSame() {
        for (int passages = 1; passages <= 18; passages++) {
            checks.is("say(1, 1) by " + passages, Caves.side(passages).say(1, 1), passages);
        }
    }

    private void clappersOfEachSyllableAndDelay() {
        for (int syllable = 1; syllable <= 9; syllable++) {
            EchoCave cave = Caves.one(0, 1, 0);
            cave.setClapper(1, syllable, 0);
            for (int said = 1; said <= 9; said++) {
                checks.is("would(" + said + ", 1, 3)", cave.would(said, 1, 3), said == syllable ? 2 : 1);
            }
        }
        for (int delay = 0; delay <= 20; delay++) {
            EchoCave cave = Caves.one(0, 1, 0);
            cave.setClapper(1, 7, delay);
            cave.say(7, 1);
            // 60 are said, and 54 come; what came from the wall is 0, and has the smaller number.
            checks.heardIs(cave, row(2, 0, 7, 0, 0), row(2 + delay, 0, 7, 54, 1));
        }
    }

    private void clappersInEachChamberBut0() {
        EchoCave cave = Caves.fullAndSilent();
        checks.is("count(3)", cave.count(3), 11);
        // Eighteen of the caller and eighteen of the clappers at 2, and at 4 more than are kept.
        wouldIs(cave, 9, 1, 60, 1, 4, 12);
        checks.is("would(999999, 20, 3)", cave.would(999999, 20, 3), 17);
        checks.is("would(111111, 20, 3)", cave.would(111111, 20, 3), 6);
        for (int chamber = 1; chamber <= 11; chamber++) {
            checks.is("setClapper(" + chamber + ", 0, 0)", cave.setClapper(chamber, 0, 0), 9);
            checks.is("count(3) without " + chamber, cave.count(3), 11 - chamber);
            checks.is("would(9, 1, 3) without " + chamber, cave.would(9, 1, 3), 12 - chamber);
        }
    }

    private void wordsOfOneAndOfSix() {
        for (int syllable = 1; syllable <= 9; syllable++) {
            EchoCave cave = Caves.one(100, 2, 0);
            checks.is("say(" + syllable + ", 20)", cave.say(syllable, 20), 1);
            checks.heardIs(cave, row(4, 0, syllable, 81, 1));
            checks.is("inOrder()", cave.inOrder(), true);
        }
        EchoCave cave = Caves.one(100, 2, 0);
        checks.is("say(987612, 1)", cave.say(987612, 1), 6);
        checks.heardIs(cave, row(4, 0, 9, 81, 1), row(5, 1, 8, 81, 1), row(6, 2, 7, 81, 1), row(7, 3, 6, 81, 1),
                row(8, 4, 1, 81, 1), row(9, 5, 2, 81, 1));
        checks.is("inOrder()", cave.inOrder(), true);
    }

    private void beatsOf1To20() {
        for (int beat = 1; beat <= 20; beat++) {
            EchoCave cave = Caves.one(100, 1, 0);
            cave.say(31, beat);
            checks.heardIs(cave, row(2, 0, 3, 81, 1), row(2 + beat, 1, 1, 81, 1));
            checks.is("would(111111, " + beat + ", 2)", cave.would(111111, beat, 2), 2 + 5 * beat);
        }
    }

    private void eachPassageOnceInEachDirection() {
        // At the time 2 what came to 2 by 1 goes into the long passage; what comes by that at 9 finds all used up.
        for (int wall = 0; wall <= 100; wall += 100) {
            EchoCave cave = new EchoCave();
            cave.addChamber(wall, 30, 0);
            cave.addChamber(wall, 30, 0);
            cave.addPassage(0, 1, 1, 0);
            cave.addPassage(1, 2, 1, 0);
            cave.addPassage(2, 0, 9, 0);
            cave.say(1, 1);
            checks.heardIs(cave, row(2, 0, 1, wall == 0 ? 0 : 81, wall == 0 ? 0 : 1), row(11, 0, 1, 72, 1));
        }
        // Each run has its own passages: the second syllable goes where the first one went.
        EchoCave cave = Caves.one(100, 1, 0);
        cave.say(11, 1);
        checks.heardIs(cave, row(2, 0, 1, 81, 1), row(3, 1, 1, 81, 1));
    }

    private void notHeardWithoutAPassage() {
        EchoCave cave = new EchoCave();
        checks.is("say(123456, 1) in one chamber", cave.say(123456, 1), 0);
        checks.heardIs(cave);
        wouldIs(cave, 123456, 20, 0, 0, -1, 6);
        wouldIs(cave, 1, 1, 0, 0, -1, 1);
    }

    private void heardAheadOfTheBats() {
        EchoCave cave = Caves.one(100, 1, 9);
        cave.setBats(0, 20);
        checks.is("say(1, 1) with 20 bats", cave.say(1, 1), 1);
        checks.heardIs(cave, row(2, 0, 1, 20, 1));
    }

    /** How narrow the passages of a row have to be, so that this comes to its end; null if it cannot be so. */
    private static List<Integer> narrowsFor(int strength, int from, int passages) {
        if (from == strength && from < 100) {
            return new ArrayList<>();
        }
        for (int narrow = 0; narrow <= 9 && passages > 0 && from > strength; narrow++) {
            List<Integer> rest = narrowsFor(strength, from * (90 - 5 * narrow) / 100, passages - 1);
            if (rest != null) {
                rest.add(0, narrow);
                return rest;
            }
        }
        return null;
    }

    /** For 0 to 20 bats, each strength about 2 * the bats and 1: what is less sets off no clapper there. */
    private void batsAtEachStrength() {
        int tried = 0;
        for (int strength = 0; strength <= 50; strength++) {
            List<Integer> narrows = narrowsFor(strength, 100, 11);
            if (narrows == null) {
                continue;
            }
            EchoCave cave = new EchoCave();
            for (int narrow : narrows) {
                cave.addPassage(cave.addChamber(0, 30, 0) - 1, cave.count(0) - 1, 1, narrow);
            }
            cave.setClapper(cave.count(0) - 1, 1, 0);
            for (int bats = 0; bats <= 20; bats++) {
                cave.setBats(cave.count(0) - 1, bats);
                checks.is("would(1, 1, 3), " + bats + " bats, the strength " + strength, cave.would(1, 1, 3),
                        strength < 2 * bats + 1 ? 1 : 2);
                tried += strength == 2 * bats || strength == 2 * bats + 1 ? 1 : 0;
            }
        }
        checks.is("numbers of bats at both of whose bounds a strength was tried", tried, 42);
    }

    private void whatTheBatsDrownSetsOffNoClapper() {
        // 20 come to the chamber 2 at the time 2, and 90 at the time 9.
        int[][] bats10 = {row(2, 0, 1, 0, 0), row(11, 0, 1, 12, 1), row(18, 0, 1, 0, 0), row(18, 0, 1, 54, 1)};
        int[][] bats9 = {row(2, 0, 1, 0, 0), row(4, 0, 1, 12, 1), row(11, 0, 1, 18, 1), row(11, 0, 1, 54, 1)};
        for (int bats = 9; bats <= 10; bats++) {
            EchoCave cave = new EchoCave();
            cave.addChamber(0, 30, 0);
            cave.addChamber(0, 30, bats);
            cave.addPassage(0, 1, 1, 9);
            cave.addPassage(1, 2, 1, 9);
            cave.addPassage(0, 2, 9, 0);
            cave.setClapper(2, 1, 0);
            cave.say(1, 1);
            checks.heardIs(cave, bats == 9 ? bats9 : bats10);
        }
    }

    private void setOffOncePerWord() {
        EchoCave cave = Caves.one(0, 1, 0);
        cave.setClapper(1, 1, 0);
        for (int word = 0; word < 3; word++) {
            checks.is("would(111111, 1, 3)", cave.would(111111, 1, 3), 7);
            checks.is("say(111111, 1)", cave.say(111111, 1), 1);
            checks.is("say(1, 1)", cave.say(1, 1), 1);
            checks.is("say(2, 1)", cave.say(2, 1), 0);
        }
        // Nor by the run of another clapper: each of both hears the other.
        EchoCave two = Caves.one(0, 1, 0);
        two.addChamber(0, 30, 0);
        two.addPassage(1, 2, 1, 0);
        two.setClapper(1, 1, 0);
        two.setClapper(2, 1, 0);
        checks.is("would(1, 1, 3) of two clappers", two.would(1, 1, 3), 3);
    }

    private void notBackByTheOneItCameBy() {
        // With a wall of 0 only a strength of 0 comes back by the passage by which it came.
        EchoCave cave = Caves.one(0, 1, 0);
        cave.addPassage(0, 1, 2, 0);
        cave.say(1, 1);
        // By 0 it comes to 1 at the time 1, goes out by 1, and is heard at 3; by 1 all is used up by then.
        checks.heardIs(cave, row(2, 0, 1, 0, 0), row(3, 0, 1, 81, 1));
    }

    private void closedPassagesLetNothingIn() {
        EchoCave cave = new EchoCave();
        cave.addChamber(100, 30, 0);
        cave.addChamber(100, 4, 0);
        cave.addPassage(0, 1, 1, 0);
        cave.addPassage(1, 2, 1, 0);
        cave.addPassage(2, 0, 1, 0);
        cave.setClapper(2, 1, 0);
        cave.setWater(4);
        checks.is("would(1, 1, 3) at 4", cave.would(1, 1, 3), 2);
        cave.setWater(5);
        checks.is("would(1, 1, 3) at 5", cave.would(1, 1, 3), 1);
        checks.is("say(1, 1) at 5", cave.say(1, 1), 1);
        checks.heardIs(cave, row(2, 0, 1, 81, 1));
    }

    private void comesAt200ButNotLater() {
        // What 3 and 4 say anew is at 196 in 5; the last passage takes both to 0 at 200, or would at 201.
        checks.is("would(.., 2) at 199", Caves.late(5, 0, 3).would(111112, 20, 2), 199);
        checks.is("would(.., 2) at 200", Caves.late(5, 0, 4).would(111112, 20, 2), 200);
        checks.is("would(.., 2) not at 201", Caves.late(5, 0, 5).would(111112, 20, 2), 176);
        int at200 = Caves.late(5, 0, 4).would(111112, 20, 0);
        checks.is("would(.., 0) at 201", Caves.late(5, 0, 5).would(111112, 20, 0), at200 - 2);
        EchoCave heard = Caves.late(5, 0, 4);
        heard.setEar(1);
        heard.say(111112, 20);
        int last = heard.count(8) - 1;
        checks.is("heard(last, 0)", heard.heard(last, 0), 200);
        checks.is("heard(last, 1)", heard.heard(last, 1), 5);
        checks.is("heard(last, 2)", heard.heard(last, 2), 2);
        // The same for another chamber, whose clapper tells that something came: from 4, at 196, by 4 or by 5.
        for (int length = 4; length <= 5; length++) {
            EchoCave cave = Caves.late(9, 0, 9);
            cave.setClapper(4, 0, 0);
            cave.addChamber(0, 30, 0);
            cave.addPassage(4, 6, length, 9);
            cave.setClapper(6, 2, 0);
            checks.is("would(.., 3) at " + (196 + length), cave.would(111112, 20, 3), length == 4 ? 10 : 9);
        }
    }

    private void saysAt200ButNotLater() {
        // The clapper of 4 is set off at 196.
        int[][] delays = {{0, 10}, {3, 10}, {4, 10}, {5, 9}, {20, 9}};
        for (int[] d : delays) {
            checks.is("would(.., 3), a delay of " + d[0], Caves.late(9, d[0], 4).would(111112, 20, 3), d[1]);
        }
    }

    private void orderByTime() {
        EchoCave cave = Caves.one(100, 9, 0);
        cave.addChamber(100, 30, 0);
        cave.addPassage(0, 2, 1, 2);
        cave.say(12, 1);
        checks.heardIs(cave, row(2, 0, 1, 64, 1), row(3, 1, 2, 64, 1), row(18, 0, 1, 81, 1), row(19, 1, 2, 81, 1));
    }

    /** At the time 2 each of two runs sets off a clapper; what both say is heard at 4, by the order of setting off. */
    private void orderByChamberAheadOfRun() {
        for (int first = 1; first <= 2; first++) {
            int second = 3 - first;
            EchoCave cave = new EchoCave();
            cave.addChamber(0, 30, 0);
            cave.addChamber(0, 30, 0);
            // The second syllable is said at 1, so that its chamber is nearer by 1.
            cave.addPassage(0, first, 2, 0);
            cave.addPassage(0, second, 1, 0);
            cave.setClapper(first, 7, 0);
            cave.setClapper(second, 8, 1);
            checks.is("say(78, 1), 7 in " + first, cave.say(78, 1), 2);
            // What is said in the chamber 1 has the smaller number, be it set off by the run 0 or by the run 1.
            int[] of7 = row(4, 0, 7, 54, 1);
            int[] of8 = row(4, 1, 8, 54, 1);
            checks.heardIs(cave, row(2, 0, 7, 0, 0), row(3, 1, 8, 0, 0), row(4, 0, 7, 0, 0), first == 1 ? of7 : of8,
                    first == 1 ? of8 : of7, row(5, 1, 8, 0, 0), row(6, 0, 7, 0, 0), row(8, 1, 8, 0, 0));
            checks.is("inOrder(), 7 in " + first, cave.inOrder(), first == 1);
        }
    }

    /** Eleven chambers, behind a passage each, in any order of their lengths: by time, then by run, then by passage. */
    private void orderOfManyThatAreDueAtOnce() {
        int[] lengths = {3, 9, 1, 7, 5, 2, 8, 4, 6, 9, 1};
        int[] strengths = {81, 72, 64, 56, 49, 42, 36, 30, 25, 20, 81};
        for (int beat = 1; beat <= 20; beat++) {
            EchoCave cave = new EchoCave();
            for (int passage = 0; passage < 11; passage++) {
                cave.addPassage(0, cave.addChamber(100, 30, 0), lengths[passage], passage % 10);
            }
            List<int[]> due = new ArrayList<>();
            for (int time = 0; time <= 200; time++) {
                for (int place = 0; place < 5; place++) {
                    for (int passage = 0; passage < 11; passage++) {
                        if (place * beat + 2 * lengths[passage] == time) {
                            due.add(row(time, place, 5 - place, strengths[passage], 1));
                        }
                    }
                }
            }
            checks.is("say(54321, " + beat + ")", cave.say(54321, beat), 55);
            checks.heardIs(cave, due.toArray(new int[0][]));
        }
    }

    /** Seventeen runs, each of which goes into all eighteen passages in both directions; the last is heard at 124. */
    private void asManyComingsAsThereCanBe() {
        EchoCave cave = Caves.one(100, 1, 0);
        cave.setClapper(1, 9, 0);
        for (int chamber = 2; chamber <= 11; chamber++) {
            cave.addChamber(100, 30, 0);
            cave.addPassage(1, chamber, 1, 0);
            cave.setClapper(chamber, 9, chamber == 11 ? 20 : 0);
        }
        for (int chamber = 2; chamber <= 8; chamber++) {
            cave.addPassage(1, chamber, 1, 0);
        }
        // Six by the wall, with 81, and what the clappers say by the same passage.
        checks.is("say(111119, 20)", cave.say(111119, 20), 17);
        wouldIs(cave, 111119, 20, 17, 1, 124, 17);
        int[] first = {102, 5, 9, 81, 1};
        int[] last = {124, 5, 9, 48, 1};
        for (int what = 0; what < 5; what++) {
            checks.is("heard(5, " + what + ")", cave.heard(5, what), first[what]);
            checks.is("heard(16, " + what + ")", cave.heard(16, what), last[what]);
        }
    }

    private void clappersAreNumberedAsTheyAreSetOff() {
        // That of 1 is set off at 1 and speaks at 9, that of 2 is set off and speaks at 5; both are heard at 10.
        EchoCave cave = Caves.one(0, 1, 0);
        cave.addChamber(0, 30, 0);
        cave.addPassage(0, 2, 5, 2);
        cave.setClapper(1, 1, 8);
        cave.setClapper(2, 1, 0);
        cave.say(1, 1);
        checks.heardIs(cave, row(2, 0, 1, 0, 0), row(10, 0, 1, 0, 0), row(10, 0, 1, 54, 1), row(10, 0, 1, 48, 1),
                row(12, 0, 1, 0, 0), row(20, 0, 1, 0, 0));
    }

    /** What five, six or seven clappers say is heard as the last but for the seventh's, which is heard first. */
    private static EchoCave fiveToSeven(int clappers) {
        EchoCave cave = Caves.nineNarrow(clappers < 6 ? clappers : 6);
        if (clappers == 7) {
            cave.setClapper(7, 1, 0);
        }
        return cave;
    }

    private void sixtyAreKept() {
        int[] kept = {59, 60, 60};
        int[] counted = {5, 6, 6};
        int[] last = {26, 27, 26};
        for (int i = 0; i < 3; i++) {
            EchoCave cave = fiveToSeven(5 + i);
            String of = " of " + (59 + i);
            checks.is("say(123456, 1)" + of, cave.say(123456, 1), counted[i]);
            checks.is("count(8)" + of, cave.count(8), kept[i]);
            checks.is("count(9)" + of, cave.count(9), counted[i]);
            checks.is("heard(last, 0)" + of, cave.heard(kept[i] - 1, 0), last[i]);
            checks.is("heard(last, 3)" + of, cave.heard(kept[i] - 1, 3), 27);
            checks.is("heard(kept, 0)" + of, Checks.outcome(() -> cave.heard(cave.count(8), 0)),
                    "IndexOutOfBoundsException");
            checks.is("inOrder()" + of, cave.inOrder(), i == 1);
            checks.is("first(5)" + of, cave.first(5), i == 1 ? 27 : -1);
            checks.is("first(0)" + of, cave.first(0), i == 2 ? 2 : 22);
            checks.is("mean()" + of, cave.mean(), counted[i] * 27.0 / kept[i]);
        }
    }

    private void sixtyAreKeptOfWhatWouldBe() {
        wouldIs(fiveToSeven(5), 123456, 1, 5, 0, 26, 11);
        wouldIs(fiveToSeven(6), 123456, 1, 6, 1, 27, 12);
        wouldIs(fiveToSeven(7), 123456, 1, 6, 0, 26, 13);
    }

    private void sixtyAreKeptAsAClapperIsAdvised() {
        checks.is("advise(123456, 1, 6, 20) with five", fiveToSeven(5).advise(123456, 1, 6, 20), 6);
        // The seventh says what the first says, so in its place only six speak.
        EchoCave seven = fiveToSeven(7);
        checks.is("advise(123456, 1, 6, 20) with seven", seven.advise(123456, 1, 6, 20), 1);
        seven.setClapper(8, 1, 0);
        checks.is("advise(123456, 1, 6, 20) with eight", seven.advise(123456, 1, 6, 20), -1);
    }

    private void sixtyAreKeptOfTheLongest() {
        // With ten passages the sixth syllable is heard as the 51st to the 60th, with eleven from the 56th on,
        // and with twelve it would be the 61st.
        int[][] passages = {{10, 6}, {11, 6}, {12, 5}, {14, 5}, {15, 4}, {18, 4}};
        for (int[] p : passages) {
            checks.is("longest(1, 1) by " + p[0], Caves.side(p[0]).longest(1, 1), p[1]);
        }
    }

    /** The ear, the wall and how narrow it is, and then the strength that is heard and whether it counts. */
    private void strengthOfTheEarCounts() {
        int[][] caves = {{5, 27, 9, 5, 1}, {5, 26, 9, 4, 0}, {1, 7, 9, 1, 1}, {1, 5, 9, 0, 0}, {50, 63, 0, 50, 1},
            {50, 62, 0, 49, 0}};
        for (int[] c : caves) {
            EchoCave cave = Caves.one(c[1], 1, c[2]);
            if (c[0] != 5) {
                cave.setEar(c[0]);
            }
            wouldIs(cave, 8, 1, c[4], c[4], c[4] == 1 ? 2 : -1, 1);
            checks.is("say(8, 1)", cave.say(8, 1), c[4]);
            checks.heardIs(cave, row(2, 0, 8, c[3], c[4]));
            checks.is("count(9)", cave.count(9), c[4]);
            checks.is("inOrder()", cave.inOrder(), c[4] == 1);
            checks.is("first(0)", cave.first(0), c[4] == 1 ? 2 : -1);
            checks.is("mean()", cave.mean(), (double) c[3]);
            checks.is("quickest(8)", cave.quickest(8), c[4] == 1 ? 1 : -1);
            checks.is("longest(8, 1)", cave.longest(8, 1), c[4] == 1 ? 6 : 0);
        }
    }

    private void inOrderOneBehindTheOther() {
        // The delays decide when each of the six is heard: in their order, or one of them not behind the one before.
        int[][] rows = {{20, 20, 20, 20, 20, 20, 1}, {0, 1, 2, 3, 4, 5, 1}, {0, 0, 0, 0, 0, 0, 1},
            {5, 4, 3, 2, 1, 0, 1}, {6, 4, 3, 2, 1, 0, 0}, {5, 4, 3, 2, 2, 0, 0}, {0, 0, 0, 0, 2, 0, 0}};
        for (int[] r : rows) {
            EchoCave cave = Caves.nineNarrow(6);
            for (int chamber = 1; chamber <= 6; chamber++) {
                cave.setClapper(chamber, chamber, r[chamber - 1]);
            }
            checks.is("would(123456, 1, 1)", cave.would(123456, 1, 1), r[6]);
            cave.say(123456, 1);
            checks.is("inOrder()", cave.inOrder(), r[6] == 1);
            checks.is("count(9)", cave.count(9), 6);
            // One that is missing, be it the first, one between, or the last.
            for (int chamber = 1; chamber <= 6; chamber++) {
                cave.setClapper(chamber, 0, 0);
                checks.is("would(123456, 1, 1) without " + chamber, cave.would(123456, 1, 1), 0);
                cave.setClapper(chamber, chamber, r[chamber - 1]);
            }
        }
    }

    private void placeOfTheSyllableThatSetItOff() {
        int[] words = {211111, 121111, 112111, 111211, 111121, 111112};
        for (int place = 0; place < 6; place++) {
            EchoCave cave = Caves.nineNarrow(0);
            cave.setClapper(4, 2, 20);
            checks.is("say(" + words[place] + ", 1)", cave.say(words[place], 1), 1);
            int[] due = {22 + place, place, 2, 27, 1};
            for (int what = 0; what < 5; what++) {
                checks.is("heard(54, " + what + ")", cave.heard(54, what), due[what]);
            }
            for (int other = 0; other < 6; other++) {
                checks.is("first(" + other + ")", cave.first(other), other == place ? 22 + place : -1);
            }
        }
    }
}
