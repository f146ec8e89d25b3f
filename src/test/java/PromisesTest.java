import java.util.Arrays;

/** The promises one by one; the answers due are worked out by hand from the document. */
public final class PromisesTest {
    private static final Class<IllegalArgumentException> ARGUMENT = IllegalArgumentException.class;
    private static final Class<IllegalStateException> STATE = IllegalStateException.class;
    private static final Class<IndexOutOfBoundsException> INDEX = IndexOutOfBoundsException.class;
    private static final int[] NO_WORDS = {
        0, -1, -11, 10, 101, 110, 100000, 111110, 101111, 1000000, 1111111, Integer.MAX_VALUE, Integer.MIN_VALUE,
    };

    private final Checks checks = new Checks();

    public static void main(String[] args) {
        PromisesTest test = new PromisesTest();
        test.promise1();
        test.promise2();
        test.promise3();
        test.promise4();
        test.promise5();
        test.promise6();
        test.promise7();
        test.promise8();
        test.promise9();
        test.soundInOrderOfComings();
        test.soundGrowsWeaker();
        test.soundAndBats();
        test.soundAtTheBoundOfBats();
        test.soundAtTheBoundOfBatsWhereTheCallerStands();
        test.soundAndClappers();
        test.soundAndTheLastTime();
        test.soundAndWater();
        test.promise10();
        test.promise11();
        test.promise12();
        test.promise13();
        test.promise14();
        test.promise15();
        test.promise16();
        test.promise17();
        test.promise18();
        test.promise19();
        test.promise20();
        test.promise21();
        test.promise22();
        test.checks.end();
    }

    /** Walls that give nothing back, and a clapper in each of two chambers. */
    private static EchoCave twoClappers(int delayOf1, int delayOf2) {
        EchoCave cave = Caves.one(0, 1, 0);
        cave.addChamber(0, 30, 0);
        cave.addPassage(0, 2, 1, 0);
        cave.setClapper(1, 1, delayOf1);
        cave.setClapper(2, 2, delayOf2);
        return cave;
    }

    private static int[] row(int... facts) {
        return facts;
    }

    private void promise1() {
        EchoCave cave = new EchoCave();
        int[] chamber = {0, 30, 0, 0, 0, 0, 0};
        for (int what = 0; what < chamber.length; what++) {
            checks.is("new, chamber(0, " + what + ")", cave.chamber(0, what), chamber[what]);
        }
        int[] count = {1, 0, 0, 0, 0, 5, 0, 0, 0, 0};
        for (int what = 0; what < count.length; what++) {
            checks.is("new, count(" + what + ")", cave.count(what), count[what]);
        }
        checks.fails(cave, INDEX, "new, chamber(1, 0)", () -> cave.chamber(1, 0));
        checks.fails(cave, INDEX, "new, passage(0, 0)", () -> cave.passage(0, 0));
    }

    private void promise2() {
        EchoCave cave = new EchoCave();
        int[][] wrong = {{-1, 0, 0}, {101, 0, 0}, {0, -1, 0}, {0, 31, 0}, {0, 0, -1}, {0, 0, 21},
            {Integer.MIN_VALUE, 0, 0}, {0, Integer.MAX_VALUE, 0}};
        for (int[] w : wrong) {
            checks.fails(cave, ARGUMENT, "addChamber", () -> cave.addChamber(w[0], w[1], w[2]));
        }
        checks.is("addChamber(100, 30, 20)", cave.addChamber(100, 30, 20), 1);
        checks.is("addChamber(0, 0, 0)", cave.addChamber(0, 0, 0), 2);
        checks.is("chamber(1, 0)", cave.chamber(1, 0), 100);
        checks.is("chamber(1, 1)", cave.chamber(1, 1), 30);
        checks.is("chamber(1, 2)", cave.chamber(1, 2), 20);
        for (int number = 3; number < 12; number++) {
            checks.is("addChamber", cave.addChamber(number, number, number), number);
        }
        checks.fails(cave, STATE, "a 13th addChamber", () -> cave.addChamber(0, 0, 0));
        checks.fails(cave, ARGUMENT, "a wrong 13th addChamber", () -> cave.addChamber(0, 0, 21));
        checks.is("chamber(11, 1)", cave.chamber(11, 1), 11);
    }

    private void promise3() {
        EchoCave cave = new EchoCave();
        cave.addChamber(0, 0, 0);
        int[][] noChamber = {{-1, 0, 1, 0}, {0, -1, 1, 0}, {2, 0, 1, 0}, {0, 2, 1, 0}, {2, 2, 1, 0}, {0, 2, 0, 0},
            {0, Integer.MAX_VALUE, 1, 0}, {Integer.MIN_VALUE, 0, 1, 10}};
        for (int[] w : noChamber) {
            checks.fails(cave, INDEX, "addPassage", () -> cave.addPassage(w[0], w[1], w[2], w[3]));
        }
        int[][] wrong = {{0, 0, 1, 0}, {1, 1, 1, 0}, {0, 1, 0, 0}, {0, 1, 10, 0}, {0, 1, 1, -1}, {0, 1, 1, 10}};
        for (int[] w : wrong) {
            checks.fails(cave, ARGUMENT, "addPassage", () -> cave.addPassage(w[0], w[1], w[2], w[3]));
        }
        checks.is("addPassage(0, 1, 1, 0)", cave.addPassage(0, 1, 1, 0), 0);
        checks.is("addPassage(1, 0, 9, 9)", cave.addPassage(1, 0, 9, 9), 1);
        for (int number = 2; number < 18; number++) {
            checks.is("addPassage", cave.addPassage(0, 1, 5, 5), number);
        }
        checks.fails(cave, STATE, "a 19th addPassage", () -> cave.addPassage(0, 1, 1, 0));
        checks.fails(cave, ARGUMENT, "a wrong 19th addPassage", () -> cave.addPassage(0, 0, 1, 0));
        checks.fails(cave, INDEX, "a 19th addPassage to nowhere", () -> cave.addPassage(0, 2, 0, 0));
    }

    private void promise4() {
        EchoCave cave = new EchoCave();
        checks.is("setWater(30)", cave.setWater(30), 0);
        checks.fails(cave, ARGUMENT, "setWater(31)", () -> cave.setWater(31));
        checks.fails(cave, ARGUMENT, "setWater(-1)", () -> cave.setWater(-1));
        checks.is("setWater(0)", cave.setWater(0), 30);
        checks.is("setWater(7)", cave.setWater(7), 0);
        checks.is("count(4)", cave.count(4), 7);
    }

    private void promise5() {
        EchoCave cave = new EchoCave();
        cave.addChamber(0, 0, 3);
        checks.is("setBats(1, 20)", cave.setBats(1, 20), 3);
        checks.is("setBats(1, 0)", cave.setBats(1, 0), 20);
        checks.is("setBats(0, 4)", cave.setBats(0, 4), 0);
        checks.is("chamber(0, 2)", cave.chamber(0, 2), 4);
        checks.is("chamber(1, 2)", cave.chamber(1, 2), 0);
        checks.fails(cave, INDEX, "setBats(2, 0)", () -> cave.setBats(2, 0));
        checks.fails(cave, INDEX, "setBats(-1, 21)", () -> cave.setBats(-1, 21));
        checks.fails(cave, ARGUMENT, "setBats(1, 21)", () -> cave.setBats(1, 21));
        checks.fails(cave, ARGUMENT, "setBats(1, -1)", () -> cave.setBats(1, -1));
    }

    private void promise6() {
        EchoCave cave = new EchoCave();
        cave.addChamber(0, 0, 0);
        checks.is("setClapper(1, 9, 20)", cave.setClapper(1, 9, 20), 0);
        checks.is("chamber(1, 4)", cave.chamber(1, 4), 20);
        checks.is("setClapper(1, 1, 0)", cave.setClapper(1, 1, 0), 9);
        checks.is("chamber(1, 3)", cave.chamber(1, 3), 1);
        checks.is("chamber(1, 4)", cave.chamber(1, 4), 0);
        checks.is("setClapper(1, 0, 20)", cave.setClapper(1, 0, 20), 1);
        checks.is("chamber(1, 3) without", cave.chamber(1, 3), 0);
        checks.is("chamber(1, 4) without", cave.chamber(1, 4), 0);
        checks.is("setClapper(1, 0, 0)", cave.setClapper(1, 0, 0), 0);
        checks.fails(cave, INDEX, "setClapper(2, 10, 0)", () -> cave.setClapper(2, 10, 0));
        checks.fails(cave, INDEX, "setClapper(-1, 1, 0)", () -> cave.setClapper(-1, 1, 0));
        checks.fails(cave, ARGUMENT, "setClapper(0, 1, 0)", () -> cave.setClapper(0, 1, 0));
        checks.fails(cave, ARGUMENT, "setClapper(0, 0, 0)", () -> cave.setClapper(0, 0, 0));
        checks.fails(cave, ARGUMENT, "setClapper(1, 10, 0)", () -> cave.setClapper(1, 10, 0));
        checks.fails(cave, ARGUMENT, "setClapper(1, -1, 0)", () -> cave.setClapper(1, -1, 0));
        checks.fails(cave, ARGUMENT, "setClapper(1, 1, 21)", () -> cave.setClapper(1, 1, 21));
        checks.fails(cave, ARGUMENT, "setClapper(1, 0, 21)", () -> cave.setClapper(1, 0, 21));
        checks.fails(cave, ARGUMENT, "setClapper(1, 0, -1)", () -> cave.setClapper(1, 0, -1));
    }

    private void promise7() {
        EchoCave cave = new EchoCave();
        checks.is("setEar(1)", cave.setEar(1), 5);
        checks.is("setEar(50)", cave.setEar(50), 1);
        checks.fails(cave, ARGUMENT, "setEar(0)", () -> cave.setEar(0));
        checks.fails(cave, ARGUMENT, "setEar(51)", () -> cave.setEar(51));
        checks.is("count(5)", cave.count(5), 50);
    }

    private void promise8() {
        EchoCave cave = new EchoCave();
        cave.addChamber(11, 12, 13);
        cave.addChamber(0, 5, 0);
        cave.addPassage(0, 1, 1, 0);
        cave.addPassage(1, 2, 1, 0);
        cave.addPassage(2, 1, 1, 0);
        cave.setClapper(1, 7, 8);
        cave.setWater(6);
        int[] due = {11, 12, 13, 7, 8, 3, 1};
        for (int what = 0; what < due.length; what++) {
            checks.is("chamber(1, " + what + ")", cave.chamber(1, what), due[what]);
        }
        checks.is("chamber(2, 5)", cave.chamber(2, 5), 2);
        checks.is("chamber(2, 6)", cave.chamber(2, 6), 0);
        checks.fails(cave, INDEX, "chamber(1, 7)", () -> cave.chamber(1, 7));
        checks.fails(cave, INDEX, "chamber(1, -1)", () -> cave.chamber(1, -1));
        checks.fails(cave, INDEX, "chamber(3, 0)", () -> cave.chamber(3, 0));
        checks.fails(cave, INDEX, "chamber(-1, 0)", () -> cave.chamber(-1, 0));
        checks.fails(cave, INDEX, "chamber(max, max)", () -> cave.chamber(Integer.MAX_VALUE, Integer.MAX_VALUE));
    }

    private void promise9() {
        EchoCave cave = new EchoCave();
        cave.addChamber(0, 9, 0);
        cave.addPassage(1, 0, 7, 3);
        int[] due = {1, 0, 7, 3, 1};
        cave.setWater(9);
        for (int what = 0; what < due.length; what++) {
            checks.is("passage(0, " + what + ")", cave.passage(0, what), due[what]);
        }
        cave.setWater(10);
        checks.is("passage(0, 4) under water", cave.passage(0, 4), 0);
        checks.fails(cave, INDEX, "passage(0, 5)", () -> cave.passage(0, 5));
        checks.fails(cave, INDEX, "passage(0, -1)", () -> cave.passage(0, -1));
        checks.fails(cave, INDEX, "passage(1, 0)", () -> cave.passage(1, 0));
        checks.fails(cave, INDEX, "passage(-1, 0)", () -> cave.passage(-1, 0));
    }

    private void soundInOrderOfComings() {
        // By the number of the passage: what comes by 0 takes both ways back before what comes by 1.
        EchoCave byPassage = Caves.one(100, 2, 0);
        byPassage.addPassage(0, 1, 2, 2);
        checks.is("say(1, 1)", byPassage.say(1, 1), 2);
        checks.heardIs(byPassage, row(4, 0, 1, 81, 1), row(4, 0, 1, 72, 1));
        // By the number of the run ahead of that of the passage, at the time 4.
        EchoCave byRun = Caves.one(100, 1, 0);
        byRun.addChamber(100, 30, 0);
        byRun.addPassage(0, 2, 2, 0);
        checks.is("say(12, 2)", byRun.say(12, 2), 4);
        checks.heardIs(byRun, row(2, 0, 1, 81, 1), row(4, 0, 1, 81, 1), row(4, 1, 2, 81, 1), row(6, 1, 2, 81, 1));
        // By the number of the chamber: the clapper of 1 is set off ahead of that of 2, so its run comes first.
        EchoCave byChamber = new EchoCave();
        byChamber.addChamber(0, 30, 0);
        byChamber.addChamber(0, 30, 0);
        byChamber.addPassage(0, 2, 1, 2);
        byChamber.addPassage(0, 1, 1, 0);
        byChamber.setClapper(1, 1, 0);
        byChamber.setClapper(2, 1, 0);
        checks.is("say(1, 1)", byChamber.say(1, 1), 2);
        // Those of the clappers go on from the chamber 0, into the other chamber, and come back from there with 0.
        checks.heardIs(byChamber, row(2, 0, 1, 0, 0), row(2, 0, 1, 0, 0), row(2, 0, 1, 54, 1), row(2, 0, 1, 48, 1),
                row(4, 0, 1, 0, 0), row(4, 0, 1, 0, 0));
    }

    private void soundGrowsWeaker() {
        // 100 * 45 / 100 is 45, the wall gives back 14 of it, and 14 * 45 / 100 is 6.
        EchoCave cave = new EchoCave();
        cave.addChamber(33, 30, 0);
        cave.addPassage(0, 1, 4, 9);
        checks.is("say(7, 1)", cave.say(7, 1), 1);
        checks.heardIs(cave, row(8, 0, 7, 6, 1));
        cave.setEar(6);
        checks.is("say(7, 1) with the ear 6", cave.say(7, 1), 1);
        checks.heardIs(cave, row(8, 0, 7, 6, 1));
        cave.setEar(7);
        checks.is("say(7, 1) with the ear 7", cave.say(7, 1), 0);
        checks.heardIs(cave, row(8, 0, 7, 6, 0));
        // 33 of 100 of 90 is 29, cut ahead of the passage: 26, not 27.
        EchoCave cut = Caves.one(33, 1, 0);
        cut.say(7, 1);
        checks.heardIs(cut, row(2, 0, 7, 26, 1));
    }

    private void soundAndBats() {
        // Six narrow passages leave 45, 20, 9, 4, 1 and 0 of 100: what has no strength sets off no clapper.
        EchoCave row = new EchoCave();
        for (int chamber = 1; chamber <= 6; chamber++) {
            row.addChamber(0, 30, 0);
            row.addPassage(chamber - 1, chamber, 1, 9);
        }
        row.setClapper(6, 1, 0);
        checks.is("runs with a clapper at 0", row.would(1, 1, 3), 1);
        row.setClapper(6, 0, 0);
        row.setClapper(5, 1, 0);
        checks.is("runs with a clapper at 1", row.would(1, 1, 3), 2);
        row.setClapper(5, 0, 0);
        // 1 comes to the chamber 5, 4 to the chamber 4, 9 to the chamber 3, and 20 to the chamber 2:
        // "2 * the bats there and 1" is one amount, so that just 2 * the bats ends there too.
        int[][] runs = {{5, 0, 2}, {5, 1, 1}, {4, 1, 2}, {4, 2, 1}, {3, 4, 2}, {3, 5, 1}, {2, 9, 2}, {2, 10, 1},
            {2, 11, 1}};
        for (int[] r : runs) {
            row.setClapper(r[0], 1, 0);
            row.setBats(r[0], r[1]);
            checks.is("runs with " + r[1] + " bats in " + r[0], row.would(1, 1, 3), r[2]);
            row.setBats(r[0], 0);
            row.setClapper(r[0], 0, 0);
        }
        // Bats where the caller stands drown nothing of what is heard.
        EchoCave heard = Caves.one(40, 1, 0);
        heard.setBats(0, 20);
        checks.is("say(1, 1) among bats", heard.say(1, 1), 1);
        checks.heardIs(heard, row(2, 0, 1, 32, 1));
    }

    /** 40 come to the chamber 2, where these bats are and a clapper of the syllable 1; 1 and 2 give nothing back. */
    private static EchoCave fortyAmong(int bats) {
        EchoCave cave = new EchoCave();
        cave.addChamber(0, 30, 0);
        cave.addChamber(0, 30, bats);
        cave.addPassage(0, 1, 1, 8);
        cave.addPassage(1, 2, 1, 2);
        cave.setClapper(2, 1, 0);
        return cave;
    }

    /** Each call by which sound runs or is told of, with a strength of 2 * the bats and 2, and of just 2 * the bats. */
    private void soundAtTheBoundOfBats() {
        EchoCave on = fortyAmong(19);
        EchoCave ends = fortyAmong(20);
        int[] wouldOn = {1, 1, 4, 2};
        int[] wouldEnd = {0, 0, -1, 1};
        for (int what = 0; what < 4; what++) {
            checks.is("would(1, 1, " + what + "), 19 bats", on.would(1, 1, what), wouldOn[what]);
            checks.is("would(1, 1, " + what + "), 20 bats", ends.would(1, 1, what), wouldEnd[what]);
        }
        checks.is("longest(1, 1), 19 bats", on.longest(1, 1), 1);
        checks.is("longest(1, 1), 20 bats", ends.longest(1, 1), 0);
        checks.is("quickest(1), 19 bats", on.quickest(1), 1);
        checks.is("quickest(1), 20 bats", ends.quickest(1), -1);
        checks.is("say(1, 1), 19 bats", on.say(1, 1), 1);
        checks.heardIs(on, row(2, 0, 1, 0, 0), row(4, 0, 1, 24, 1));
        checks.is("say(1, 1), 20 bats", ends.say(1, 1), 0);
        checks.heardIs(ends, row(2, 0, 1, 0, 0));
        checks.is("inOrder(), 19 bats", on.inOrder(), true);
        checks.is("inOrder(), 20 bats", ends.inOrder(), false);
        checks.is("first(0), 19 bats", on.first(0), 4);
        checks.is("first(0), 20 bats", ends.first(0), -1);
        checks.is("mean(), 19 bats", on.mean(), 12.0);
        checks.is("mean(), 20 bats", ends.mean(), 0.0);
        // The syllable 1 needs the chamber 1, so that the clapper of the syllable 2 has to stand among the bats.
        on.setClapper(2, 0, 0);
        ends.setClapper(2, 0, 0);
        on.setClapper(1, 1, 20);
        ends.setClapper(1, 1, 20);
        checks.is("advise(12, 1, 2, 20), 19 bats", on.advise(12, 1, 2, 20), 2);
        checks.is("advise(12, 1, 2, 20), 20 bats", ends.advise(12, 1, 2, 20), -1);
    }

    /** The clapper's 36 come to the chamber 0, and go on from there into the other passage, or not. */
    private void soundAtTheBoundOfBatsWhereTheCallerStands() {
        for (int bats = 17; bats <= 18; bats++) {
            EchoCave cave = new EchoCave();
            cave.addChamber(0, 30, 0);
            cave.addChamber(100, 30, 0);
            cave.addPassage(0, 1, 1, 6);
            cave.addPassage(0, 2, 1, 0);
            cave.setClapper(1, 1, 0);
            cave.setBats(0, bats);
            int[][] due = {row(2, 0, 1, 0, 0), row(2, 0, 1, 81, 1), row(2, 0, 1, 36, 1), row(4, 0, 1, 28, 1)};
            int heard = bats == 17 ? 4 : 3;
            checks.is("say(1, 1), " + bats + " bats with the caller", cave.say(1, 1), heard - 1);
            checks.heardIs(cave, Arrays.copyOf(due, heard));
        }
    }

    private void soundAndClappers() {
        EchoCave cave = Caves.one(0, 2, 0);
        cave.setClapper(1, 2, 5);
        checks.is("say(212, 3)", cave.say(212, 3), 1);
        checks.heardIs(cave, row(4, 0, 2, 0, 0), row(7, 1, 1, 0, 0), row(9, 0, 2, 54, 1), row(10, 2, 2, 0, 0));
        checks.is("each word sets it off anew", cave.say(212, 3), 1);
        // The bats let only the clapper of 1 reach that of 2, which has the place of the first syllable 1.
        EchoCave chain = new EchoCave();
        chain.addChamber(0, 30, 0);
        chain.addChamber(0, 30, 12);
        chain.addPassage(0, 1, 1, 9);
        chain.addPassage(1, 2, 1, 9);
        chain.setClapper(1, 1, 20);
        chain.setClapper(2, 1, 0);
        checks.is("would(21, 1, 3)", chain.would(21, 1, 3), 4);
        checks.is("say(21, 1)", chain.say(21, 1), 2);
        checks.heardIs(chain, row(2, 0, 2, 0, 0), row(3, 1, 1, 0, 0), row(23, 1, 1, 27, 1), row(25, 1, 1, 12, 1));
    }

    private void soundAndTheLastTime() {
        checks.is("a clapper at 200", Caves.late(9, 4, 4).would(111112, 20, 3), 10);
        checks.is("a clapper at 201", Caves.late(9, 5, 4).would(111112, 20, 3), 9);
        checks.is("heard at 200", Caves.late(5, 0, 4).would(111112, 20, 2), 200);
        checks.is("not heard at 201", Caves.late(5, 0, 5).would(111112, 20, 2), 176);
    }

    private void soundAndWater() {
        EchoCave cave = new EchoCave();
        cave.addChamber(100, 8, 0);
        cave.addPassage(0, 1, 1, 0);
        cave.setWater(8);
        checks.is("say at the water 8", cave.say(1, 1), 1);
        cave.setWater(9);
        checks.is("say at the water 9", cave.say(1, 1), 0);
        checks.is("kept at the water 9", cave.count(8), 0);
    }

    private void promise10() {
        EchoCave cave = Caves.one(100, 3, 0);
        checks.is("say(12, 4)", cave.say(12, 4), 2);
        checks.heardIs(cave, row(6, 0, 1, 81, 1), row(10, 1, 2, 81, 1));
        checks.is("say(999999, 20)", cave.say(999999, 20), 6);
        checks.is("heard(5, 0)", cave.heard(5, 0), 106);
        checks.is("say(1, 1)", cave.say(1, 1), 1);
        for (int word : NO_WORDS) {
            checks.fails(cave, ARGUMENT, "say(" + word + ", 1)", () -> cave.say(word, 1));
        }
        checks.fails(cave, ARGUMENT, "say(1, 0)", () -> cave.say(1, 0));
        checks.fails(cave, ARGUMENT, "say(1, 21)", () -> cave.say(1, 21));
        // Sixty are kept: all of three syllables, and six of the fourth one.
        EchoCave many = Caves.side(18);
        checks.is("say(123, 1)", many.say(123, 1), 54);
        checks.is("say(12345, 1)", many.say(12345, 1), 60);
        checks.is("heard(53, 1)", many.heard(53, 1), 2);
        checks.is("heard(54, 1)", many.heard(54, 1), 3);
        checks.is("heard(59, 1)", many.heard(59, 1), 3);
        checks.fails(many, INDEX, "heard(60, 0)", () -> many.heard(60, 0));
    }

    private void promise11() {
        EchoCave cave = Caves.one(50, 1, 0);
        checks.fails(cave, INDEX, "heard(0, 0) before a word", () -> cave.heard(0, 0));
        cave.say(34, 2);
        cave.setEar(50);
        checks.heardIs(cave, row(2, 0, 3, 40, 1), row(4, 1, 4, 40, 1));
        cave.would(5, 1, 0);
        checks.heardIs(cave, row(2, 0, 3, 40, 1), row(4, 1, 4, 40, 1));
        checks.fails(cave, INDEX, "heard(2, 0)", () -> cave.heard(2, 0));
        checks.fails(cave, INDEX, "heard(-1, 0)", () -> cave.heard(-1, 0));
        checks.fails(cave, INDEX, "heard(0, 5)", () -> cave.heard(0, 5));
        checks.fails(cave, INDEX, "heard(0, -1)", () -> cave.heard(0, -1));
        cave.say(3, 2);
        checks.heardIs(cave, row(2, 0, 3, 40, 0));
        checks.fails(cave, INDEX, "heard(1, 0)", () -> cave.heard(1, 0));
    }

    private void promise12() {
        EchoCave cave = twoClappers(20, 0);
        checks.is("inOrder() before a word", cave.inOrder(), false);
        cave.say(21, 1);
        checks.is("inOrder() of 21", cave.inOrder(), true);
        cave.say(12, 1);
        checks.is("inOrder() of 12", cave.inOrder(), false);
        cave.setClapper(1, 1, 0);
        checks.is("inOrder() as it was said", cave.inOrder(), false);
        cave.say(12, 1);
        checks.is("inOrder() of 12 at once", cave.inOrder(), true);
        cave.setEar(50);
        checks.is("inOrder() with the ear 50 since", cave.inOrder(), true);
        cave.say(3, 1);
        checks.is("inOrder() of 3", cave.inOrder(), false);
        EchoCave once = twoClappers(0, 0);
        once.say(1221, 1);
        checks.is("inOrder() of 1221", once.inOrder(), false);
        // Others between them do not matter.
        EchoCave many = Caves.side(18);
        many.say(1234, 1);
        checks.is("inOrder() of 1234", many.inOrder(), true);
        many.say(12345, 1);
        checks.is("inOrder() of 12345", many.inOrder(), false);
    }

    private void promise13() {
        EchoCave cave = twoClappers(3, 0);
        checks.fails(cave, INDEX, "first(0) before a word", () -> cave.first(0));
        cave.say(132, 2);
        checks.is("first(0)", cave.first(0), 5);
        checks.is("first(1)", cave.first(1), -1);
        checks.is("first(2)", cave.first(2), 6);
        checks.fails(cave, INDEX, "first(3)", () -> cave.first(3));
        checks.fails(cave, INDEX, "first(-1)", () -> cave.first(-1));
        cave.setEar(50);
        cave.setClapper(1, 0, 0);
        checks.is("first(0) as it was said", cave.first(0), 5);
        cave.say(1, 2);
        checks.is("first(0) without", cave.first(0), -1);
        checks.fails(cave, INDEX, "first(1)", () -> cave.first(1));
        EchoCave twice = Caves.one(100, 1, 0);
        twice.addPassage(0, 1, 4, 0);
        twice.say(12, 2);
        checks.is("first(0) of two", twice.first(0), 2);
        checks.is("first(1) of two", twice.first(1), 4);
    }

    private void promise14() {
        EchoCave cave = twoClappers(3, 0);
        cave.addChamber(0, 5, 0);
        cave.addPassage(1, 3, 1, 0);
        cave.setEar(20);
        cave.say(1, 1);
        cave.say(12, 1);
        cave.setWater(6);
        cave.setEar(50);
        int[] due = {4, 3, 2, 2, 6, 50, 2, 12};
        for (int what = 0; what < due.length; what++) {
            checks.is("count(" + what + ")", cave.count(what), due[what]);
        }
        EchoCave heard = Caves.one(0, 2, 0);
        heard.setClapper(1, 2, 5);
        heard.say(212, 3);
        heard.setEar(50);
        checks.is("count(8)", heard.count(8), 4);
        checks.is("count(9)", heard.count(9), 1);
        heard.setClapper(1, 0, 0);
        checks.is("count(3)", heard.count(3), 0);
        checks.fails(cave, INDEX, "count(10)", () -> cave.count(10));
        checks.fails(cave, INDEX, "count(-1)", () -> cave.count(-1));
    }

    private void promise15() {
        EchoCave cave = Caves.one(0, 2, 0);
        cave.setClapper(1, 2, 5);
        cave.say(1, 1);
        long before = cave.digest();
        int[] due = {1, 0, 9, 4};
        int[] dueOf2 = {1, 1, 9, 2};
        int[] dueOf1 = {0, 0, -1, 1};
        for (int what = 0; what < 4; what++) {
            checks.is("would(212, 3, " + what + ")", cave.would(212, 3, what), due[what]);
            checks.is("would(2, 3, " + what + ")", cave.would(2, 3, what), dueOf2[what]);
            checks.is("would(1, 3, " + what + ")", cave.would(1, 3, what), dueOf1[what]);
        }
        checks.is("digest() after would", cave.digest(), before);
        cave.setEar(50);
        checks.is("would(2, 3, 0) with the ear 50", cave.would(2, 3, 0), 1);
        for (int word : NO_WORDS) {
            checks.fails(cave, ARGUMENT, "would(" + word + ", 1, 4)", () -> cave.would(word, 1, 4));
        }
        checks.fails(cave, ARGUMENT, "would(1, 0, 4)", () -> cave.would(1, 0, 4));
        checks.fails(cave, ARGUMENT, "would(1, 21, 0)", () -> cave.would(1, 21, 0));
        checks.fails(cave, INDEX, "would(1, 1, 4)", () -> cave.would(1, 1, 4));
        checks.fails(cave, INDEX, "would(1, 1, -1)", () -> cave.would(1, 1, -1));
    }

    private void promise16() {
        // The clapper of 1 is needed for the syllable 1, so that of the syllable 2 has to stand in 2.
        EchoCave cave = Caves.one(0, 1, 0);
        cave.addChamber(0, 30, 0);
        cave.addPassage(1, 2, 1, 0);
        checks.is("advise(1, 1, 1, 0)", cave.advise(1, 1, 1, 0), 1);
        cave.setClapper(1, 1, 20);
        long before = cave.digest();
        checks.is("advise(12, 1, 2, 20)", cave.advise(12, 1, 2, 20), 2);
        checks.is("advise(12, 1, 2, 17)", cave.advise(12, 1, 2, 17), 2);
        checks.is("advise(12, 1, 2, 16)", cave.advise(12, 1, 2, 16), -1);
        checks.is("advise(123, 1, 2, 20)", cave.advise(123, 1, 2, 20), -1);
        checks.is("digest() after advise", cave.digest(), before);
        checks.is("advise in a cave of one chamber", new EchoCave().advise(1, 1, 1, 0), -1);
        for (int word : NO_WORDS) {
            checks.fails(cave, ARGUMENT, "advise(" + word + ", 1, 1, 0)", () -> cave.advise(word, 1, 1, 0));
        }
        int[][] wrong = {{1, 0, 1, 0}, {1, 21, 1, 0}, {1, 1, 0, 0}, {1, 1, 10, 0}, {1, 1, 1, -1}, {1, 1, 1, 21}};
        for (int[] w : wrong) {
            checks.fails(cave, ARGUMENT, "advise", () -> cave.advise(w[0], w[1], w[2], w[3]));
        }
    }

    private void promise17() {
        EchoCave many = Caves.side(18);
        long before = many.digest();
        checks.is("longest(1, 1) by 18 passages", many.longest(1, 1), 4);
        checks.is("digest() after longest", many.digest(), before);
        checks.is("longest(9, 20)", Caves.one(100, 1, 0).longest(9, 20), 6);
        checks.is("longest(1, 1) without a wall", Caves.one(0, 1, 0).longest(1, 1), 0);
        checks.is("longest(1, 1) in one chamber", new EchoCave().longest(1, 1), 0);
        checks.is("longest(1, 1) with a clapper", twoClappers(0, 0).longest(1, 1), 1);
        checks.is("longest(3, 1) with no such clapper", twoClappers(0, 0).longest(3, 1), 0);
        checks.fails(many, ARGUMENT, "longest(0, 1)", () -> many.longest(0, 1));
        checks.fails(many, ARGUMENT, "longest(10, 1)", () -> many.longest(10, 1));
        checks.fails(many, ARGUMENT, "longest(1, 0)", () -> many.longest(1, 0));
        checks.fails(many, ARGUMENT, "longest(1, 21)", () -> many.longest(1, 21));
    }

    private void promise18() {
        // The syllable 1 is heard at 2 + delay, the 2 behind it at 2 + beat; at one time the clapper set off first
        // leads.
        int[] due = {0, 1, 1, 1, 10, 10, 20, 20};
        for (int i = 0; i < due.length; i += 2) {
            EchoCave cave = twoClappers(due[i], 0);
            checks.is("quickest(12), delay " + due[i], cave.quickest(12), due[i + 1]);
        }
        EchoCave cave = twoClappers(20, 0);
        long before = cave.digest();
        checks.is("quickest(21)", cave.quickest(21), 1);
        checks.is("quickest(13)", cave.quickest(13), -1);
        checks.is("digest() after quickest", cave.digest(), before);
        for (int word : NO_WORDS) {
            checks.fails(cave, ARGUMENT, "quickest(" + word + ")", () -> cave.quickest(word));
        }
    }

    /** 0 - 1 - 2 is 4 long, 0 - 2 is 9 long; 3 hangs on 2; 4 stands alone. */
    private static EchoCave waysCave() {
        EchoCave cave = new EchoCave();
        cave.addChamber(0, 10, 0);
        cave.addChamber(0, 20, 0);
        cave.addChamber(0, 15, 0);
        cave.addChamber(0, 30, 0);
        cave.addPassage(2, 0, 9, 0);
        cave.addPassage(1, 2, 3, 0);
        cave.addPassage(0, 1, 1, 0);
        cave.addPassage(3, 2, 2, 0);
        cave.addPassage(2, 3, 7, 0);
        return cave;
    }

    private void promise19() {
        EchoCave cave = waysCave();
        checks.is("way(0, 2)", cave.way(0, 2), 4);
        checks.is("way(3, 0)", cave.way(3, 0), 6);
        checks.is("way(0, 4)", cave.way(0, 4), -1);
        checks.is("way(4, 4)", cave.way(4, 4), 0);
        cave.setWater(11);
        checks.is("way(0, 2) at 11", cave.way(0, 2), 9);
        checks.is("way(3, 0) at 11", cave.way(3, 0), 11);
        checks.is("way(1, 0) at 11", cave.way(1, 0), -1);
        checks.is("way(1, 1) at 11", cave.way(1, 1), 0);
        checks.fails(cave, INDEX, "way(5, 0)", () -> cave.way(5, 0));
        checks.fails(cave, INDEX, "way(0, 5)", () -> cave.way(0, 5));
        checks.fails(cave, INDEX, "way(-1, -1)", () -> cave.way(-1, -1));
        // Eleven passages in the order that lets each round of looking find only one of them.
        EchoCave row = new EchoCave();
        for (int chamber = 1; chamber < 12; chamber++) {
            row.addChamber(0, 12 - chamber, 0);
        }
        for (int chamber = 11; chamber > 0; chamber--) {
            row.addPassage(chamber - 1, chamber, 9, 0);
        }
        checks.is("way(0, 11)", row.way(0, 11), 99);
        checks.is("way(11, 0)", row.way(11, 0), 99);
        checks.is("highest(11)", row.highest(11), 1);
    }

    private void promise20() {
        EchoCave cave = waysCave();
        int[] due = {30, 10, 20, 15, -1};
        for (int water = 0; water <= 30; water += 30) {
            cave.setWater(water);
            for (int chamber = 0; chamber < due.length; chamber++) {
                checks.is("highest(" + chamber + ")", cave.highest(chamber), due[chamber]);
            }
        }
        EchoCave low = new EchoCave();
        low.addChamber(0, 0, 0);
        low.addPassage(0, 1, 1, 0);
        checks.is("highest(1) of the height 0", low.highest(1), 0);
        // Behind a low chamber the high ones are reached at its height; high ones that hang together alone never are.
        EchoCave behind = new EchoCave();
        int[] heights = {10, 20, 20, 25, 25};
        for (int height : heights) {
            behind.addChamber(0, height, 0);
        }
        behind.addPassage(0, 1, 1, 0);
        behind.addPassage(1, 2, 1, 0);
        behind.addPassage(2, 3, 1, 0);
        behind.addPassage(4, 5, 1, 0);
        checks.is("highest(3) behind 10", behind.highest(3), 10);
        checks.is("highest(5) apart", behind.highest(5), -1);
        checks.fails(cave, INDEX, "highest(5)", () -> cave.highest(5));
        checks.fails(cave, INDEX, "highest(-1)", () -> cave.highest(-1));
    }

    private void promise21() {
        EchoCave cave = Caves.one(100, 1, 0);
        checks.is("mean() before a word", cave.mean(), 0.0);
        for (int narrow = 1; narrow <= 2; narrow++) {
            cave.addChamber(100, 30, 0);
            cave.addPassage(0, narrow + 1, 1, narrow);
        }
        cave.say(1, 1);
        checks.heardIs(cave, row(2, 0, 1, 81, 1), row(2, 0, 1, 72, 1), row(2, 0, 1, 64, 1));
        checks.is("mean() of 81, 72 and 64", cave.mean(), 217.0 / 3);
        EchoCave faint = Caves.one(0, 2, 0);
        faint.setClapper(1, 2, 5);
        faint.say(212, 3);
        checks.is("mean() of 54 and three times 0", faint.mean(), 13.5);
        faint.setWater(30);
        faint.setClapper(1, 0, 0);
        checks.is("mean() later", faint.mean(), 13.5);
        EchoCave silent = new EchoCave();
        silent.say(1, 1);
        checks.is("mean() of nothing", silent.mean(), 0.0);
    }

    private static long digestOf(int... numbers) {
        long d = 691;
        for (int number : numbers) {
            d = d * 31 + number;
        }
        return d;
    }

    private void promise22() {
        checks.is("digest() of a new cave", new EchoCave().digest(), digestOf(
                1, 0, 0, 0, 0, 5, 0, 0, 0, 0,
                0, 30, 0, 0, 0, 0, 0,
                0));
        EchoCave cave = new EchoCave();
        cave.addChamber(100, 9, 1);
        cave.addPassage(1, 0, 3, 0);
        cave.setClapper(1, 5, 6);
        cave.say(12, 4);
        cave.setEar(7);
        cave.setWater(10);
        checks.is("digest() of a word that came back", cave.digest(), digestOf(
                2, 1, 0, 1, 10, 7, 1, 12, 2, 2,
                0, 30, 0, 0, 0, 1, 0,
                100, 9, 1, 5, 6, 1, 0,
                1, 0, 3, 0, 0,
                6, 0, 1, 81, 1,
                10, 1, 2, 81, 1,
                1));
    }
}
