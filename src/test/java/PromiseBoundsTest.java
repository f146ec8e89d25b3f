import java.math.BigInteger;
import java.util.ArrayList;
import java.util.List;

/**
 * For each promise the smallest and the largest answer, and what an empty, an ordinary and a full cave answer;
 * the bounds of the arguments are in ArgumentBoundsTest, those of what Terms says in TermsBoundsTest.
 */
public final class PromiseBoundsTest {
    private static final String INDEX = "IndexOutOfBoundsException";

    private final Checks checks = new Checks();

    public static void main(String[] args) {
        PromiseBoundsTest test = new PromiseBoundsTest();
        test.newObject();
        test.newObjectsKnowNothingOfEachOther();
        test.addChamberTakesTheLeastAndTheMost();
        test.addPassageTakesTheLeastAndTheMost();
        test.settersAnswerWhatWas();
        test.setClapperAnswersTheSyllableBefore();
        test.chamberWithoutAndWithAllPassages();
        test.passageTellsItsChambersAsTold();
        test.sayAnswersNoneToSixty();
        test.sayTakesThePlaceOfTheWordBefore();
        test.heardFromTheFirstToTheLast();
        test.inOrderAsItWasSaid();
        test.firstOfEachPlace();
        test.countOfAnEmptyAndAFullCave();
        test.wouldOfNothingAndOfMuch();
        test.wouldChangesNothing();
        test.adviseFromTheChamber1ToTheChamber11();
        test.advisePutsItInThePlaceOfOne();
        test.longestFrom0To6();
        test.quickestFrom1To20();
        test.wayFrom0To99();
        test.highestFrom0To30();
        test.meanOfNothingOfOneAndOfSixty();
        test.digestOfAnEmptyAndAFullCave();
        test.checks.end();
    }

    private static int[] row(int... facts) {
        return facts;
    }

    private void newObject() {
        EchoCave cave = new EchoCave();
        int[] chamber = {0, 30, 0, 0, 0, 0, 0};
        for (int what = 0; what < 7; what++) {
            checks.is("new: chamber(0, " + what + ")", cave.chamber(0, what), chamber[what]);
        }
        checks.is("new: inOrder()", cave.inOrder(), false);
        checks.is("new: mean()", cave.mean(), 0.0);
        checks.is("new: heard(0, 0)", Checks.outcome(() -> cave.heard(0, 0)), INDEX);
        checks.is("new: first(0)", Checks.outcome(() -> cave.first(0)), INDEX);
        checks.is("new: passage(0, 0)", Checks.outcome(() -> cave.passage(0, 0)), INDEX);
        checks.is("new: chamber(1, 0)", Checks.outcome(() -> cave.chamber(1, 0)), INDEX);
        checks.is("new: way(0, 0)", cave.way(0, 0), 0);
        checks.is("new: highest(0)", cave.highest(0), 30);
        checks.is("new: advise(1, 1, 1, 0)", cave.advise(1, 1, 1, 0), -1);
        checks.is("new: longest(1, 20)", cave.longest(1, 20), 0);
        checks.is("new: quickest(1)", cave.quickest(1), -1);
        checks.is("new: setWater(30)", cave.setWater(30), 0);
        checks.is("new: setEar(50)", cave.setEar(50), 5);
        checks.is("new: setBats(0, 20)", cave.setBats(0, 20), 0);
        checks.is("new: addChamber(0, 0, 0)", cave.addChamber(0, 0, 0), 1);
        checks.is("new: addPassage(0, 1, 1, 0)", cave.addPassage(0, 1, 1, 0), 0);
    }

    private void newObjectsKnowNothingOfEachOther() {
        EchoCave one = Caves.full();
        String before = Caves.answers(one);
        EchoCave other = new EchoCave();
        checks.is("a new cave beside a full one", Caves.answers(other), Caves.answers(new EchoCave()));
        Caves.answersOfChanges(other);
        checks.is("a full cave beside another", Caves.answers(one), before);
    }

    private void addChamberTakesTheLeastAndTheMost() {
        int[][] chambers = {{0, 0, 0}, {100, 30, 20}, {0, 30, 20}, {100, 0, 20}, {100, 30, 0}, {1, 1, 1}, {99, 29, 19}};
        EchoCave cave = new EchoCave();
        for (int i = 0; i < chambers.length; i++) {
            int[] c = chambers[i];
            checks.is("addChamber", cave.addChamber(c[0], c[1], c[2]), i + 1);
        }
        for (int i = 0; i < chambers.length; i++) {
            for (int what = 0; what < 7; what++) {
                checks.is("chamber(" + (i + 1) + ", " + what + ")", cave.chamber(i + 1, what),
                        what < 3 ? chambers[i][what] : 0);
            }
        }
    }

    private void addPassageTakesTheLeastAndTheMost() {
        int[][] passages = {{0, 11, 1, 0}, {11, 0, 9, 9}, {10, 11, 1, 9}, {1, 0, 9, 0}, {0, 1, 2, 1}, {5, 6, 8, 8}};
        EchoCave cave = new EchoCave();
        for (int chamber = 1; chamber <= 11; chamber++) {
            cave.addChamber(0, 0, 0);
        }
        for (int i = 0; i < passages.length; i++) {
            int[] p = passages[i];
            checks.is("addPassage", cave.addPassage(p[0], p[1], p[2], p[3]), i);
        }
        for (int i = 0; i < passages.length; i++) {
            for (int what = 0; what < 5; what++) {
                checks.is("passage(" + i + ", " + what + ")", cave.passage(i, what), what < 4 ? passages[i][what] : 1);
            }
        }
    }

    private void settersAnswerWhatWas() {
        EchoCave cave = Caves.fullAndSilent();
        for (int water = 0, before = 0; water <= 30; before = water, water++) {
            checks.is("setWater(" + water + ")", cave.setWater(water), before);
            checks.is("count(4)", cave.count(4), water);
        }
        for (int ear = 1, before = 5; ear <= 50; before = ear, ear++) {
            checks.is("setEar(" + ear + ")", cave.setEar(ear), before);
            checks.is("count(5)", cave.count(5), ear);
        }
        for (int chamber = 0; chamber <= 11; chamber += 11) {
            for (int bats = 0, before = 0; bats <= 20; before = bats, bats++) {
                checks.is("setBats(" + chamber + ", " + bats + ")", cave.setBats(chamber, bats), before);
                checks.is("chamber(" + chamber + ", 2)", cave.chamber(chamber, 2), bats);
            }
        }
        checks.is("chamber(10, 2)", cave.chamber(10, 2), 0);
        checks.is("setWater(0)", cave.setWater(0), 30);
        checks.is("setEar(1)", cave.setEar(1), 50);
        checks.is("setBats(11, 0)", cave.setBats(11, 0), 20);
    }

    private void setClapperAnswersTheSyllableBefore() {
        EchoCave cave = new EchoCave();
        for (int chamber = 1; chamber <= 11; chamber++) {
            cave.addChamber(0, 0, 0);
        }
        for (int chamber = 1; chamber <= 11; chamber += 10) {
            checks.is("setClapper, taken away from none", cave.setClapper(chamber, 0, 20), 0);
            clapperIs(cave, chamber, 0, 0);
            checks.is("setClapper, the first", cave.setClapper(chamber, 9, 20), 0);
            clapperIs(cave, chamber, 9, 20);
            checks.is("setClapper, in its place", cave.setClapper(chamber, 1, 0), 9);
            clapperIs(cave, chamber, 1, 0);
            checks.is("setClapper, the same", cave.setClapper(chamber, 1, 1), 1);
            clapperIs(cave, chamber, 1, 1);
            checks.is("setClapper, taken away", cave.setClapper(chamber, 0, 20), 1);
            clapperIs(cave, chamber, 0, 0);
            checks.is("setClapper, after that", cave.setClapper(chamber, 5, 5), 0);
            clapperIs(cave, chamber, 5, 5);
        }
    }

    private void clapperIs(EchoCave cave, int chamber, int syllable, int delay) {
        checks.is("chamber(" + chamber + ", 3)", cave.chamber(chamber, 3), syllable);
        checks.is("chamber(" + chamber + ", 4)", cave.chamber(chamber, 4), delay);
        checks.is("count(3)", cave.count(3), (chamber > 1 ? 1 : 0) + (syllable > 0 ? 1 : 0));
    }

    private void chamberWithoutAndWithAllPassages() {
        EchoCave cave = Caves.one(0, 1, 0);
        cave.addChamber(0, 0, 0);
        checks.is("chamber(2, 5) without", cave.chamber(2, 5), 0);
        checks.is("chamber(2, 6) without", cave.chamber(2, 6), 0);
        checks.is("chamber(1, 5) with one", cave.chamber(1, 5), 1);
        for (int passage = 1; passage < 18; passage++) {
            cave.addPassage(passage % 2, 1 - passage % 2, 1, 0);
        }
        for (int chamber = 0; chamber <= 1; chamber++) {
            checks.is("chamber(" + chamber + ", 5) with all", cave.chamber(chamber, 5), 18);
            checks.is("chamber(" + chamber + ", 6) with all", cave.chamber(chamber, 6), 18);
        }
        EchoCave low = new EchoCave();
        low.addChamber(0, 29, 0);
        for (int passage = 0; passage < 18; passage++) {
            low.addPassage(0, 1, 1, 0);
        }
        low.setWater(30);
        for (int chamber = 0; chamber <= 1; chamber++) {
            checks.is("chamber(" + chamber + ", 5) all closed", low.chamber(chamber, 5), 18);
            checks.is("chamber(" + chamber + ", 6) all closed", low.chamber(chamber, 6), 0);
        }
    }

    private void passageTellsItsChambersAsTold() {
        EchoCave cave = Caves.fullAndSilent();
        int[] first = {0, 1, 1, 0, 1};
        int[] eleventh = {0, 11, 1, 0, 1};
        for (int what = 0; what < 5; what++) {
            checks.is("passage(0, " + what + ")", cave.passage(0, what), first[what]);
            checks.is("passage(10, " + what + ")", cave.passage(10, what), eleventh[what]);
            checks.is("passage(17, " + what + ")", cave.passage(17, what), first[what]);
        }
        EchoCave back = new EchoCave();
        back.addChamber(0, 0, 0);
        back.addPassage(1, 0, 1, 0);
        checks.is("passage(0, 0) told from 1", back.passage(0, 0), 1);
        checks.is("passage(0, 1) told from 1", back.passage(0, 1), 0);
    }

    private void sayAnswersNoneToSixty() {
        checks.is("say(1, 1) in a new cave", new EchoCave().say(1, 1), 0);
        checks.is("say(999999, 20) in a new cave", new EchoCave().say(999999, 20), 0);
        checks.is("say(1, 1) to one wall", Caves.one(100, 1, 0).say(1, 1), 1);
        checks.is("say(999999, 20) to one wall", Caves.one(100, 1, 0).say(999999, 20), 6);
        checks.is("say(1, 1) to eighteen", Caves.side(18).say(1, 1), 18);
        checks.is("say(111, 1) to eighteen", Caves.side(18).say(111, 1), 54);
        checks.is("say(1111, 1) to eighteen", Caves.side(18).say(1111, 1), 60);
        checks.is("say(111111, 20) to eighteen", Caves.side(18).say(111111, 20), 60);
        checks.is("say(111111, 1) to ten", Caves.side(10).say(111111, 1), 60);
        checks.is("say(1, 1), where all is too weak", Caves.one(0, 1, 0).say(1, 1), 0);
    }

    private void sayTakesThePlaceOfTheWordBefore() {
        EchoCave cave = Caves.side(18);
        cave.say(999999, 1);
        cave.say(7, 20);
        checks.is("count(8) after six and one", cave.count(8), 18);
        checks.is("count(9) after six and one", cave.count(9), 18);
        checks.is("heard(18, 0) after six and one", Checks.outcome(() -> cave.heard(18, 0)), INDEX);
        checks.is("first(0) after six and one", cave.first(0), 2);
        checks.is("first(1) after six and one", Checks.outcome(() -> cave.first(1)), INDEX);
        checks.is("inOrder() after six and one", cave.inOrder(), true);
        cave.setBats(1, 20);
        cave.setEar(50);
        cave.addChamber(0, 0, 0);
        checks.is("heard(17, 4) after changes", cave.heard(17, 4), 1);
        cave.setWater(30);
        checks.is("say(123456, 2) again", cave.say(123456, 2), 60);
        checks.is("count(6)", cave.count(6), 3);
        checks.is("count(7)", cave.count(7), 123456);
        // A word of which nothing is heard leaves nothing of the one before.
        EchoCave silent = new EchoCave();
        silent.addChamber(100, 29, 0);
        silent.addPassage(0, 1, 1, 0);
        silent.say(12, 1);
        silent.setWater(30);
        checks.is("say(34, 1) under water", silent.say(34, 1), 0);
        checks.heardIs(silent);
        checks.is("heard(0, 0) under water", Checks.outcome(() -> silent.heard(0, 0)), INDEX);
        checks.is("first(1) under water", silent.first(1), -1);
        checks.is("inOrder() under water", silent.inOrder(), false);
        checks.is("mean() under water", silent.mean(), 0.0);
        checks.is("count(7) under water", silent.count(7), 34);
    }

    private void heardFromTheFirstToTheLast() {
        // At 2 the first syllable by 18 passages, and eleven clappers by 18; at 3 the second one by 18; at 4 the third.
        EchoCave cave = Caves.full();
        int[][] due = {{0, 2, 0, 81}, {17, 2, 0, 81}, {18, 2, 0, 54}, {35, 2, 0, 54}, {36, 3, 1, 81}, {53, 3, 1, 81},
            {54, 4, 2, 81}, {59, 4, 2, 81}};
        for (int[] d : due) {
            checks.is("heard(" + d[0] + ", 0)", cave.heard(d[0], 0), d[1]);
            checks.is("heard(" + d[0] + ", 1)", cave.heard(d[0], 1), d[2]);
            checks.is("heard(" + d[0] + ", 2)", cave.heard(d[0], 2), 9);
            checks.is("heard(" + d[0] + ", 3)", cave.heard(d[0], 3), d[3]);
            checks.is("heard(" + d[0] + ", 4)", cave.heard(d[0], 4), 1);
        }
        checks.is("heard(60, 0)", Checks.outcome(() -> cave.heard(60, 0)), INDEX);
        EchoCave one = Caves.one(100, 1, 0);
        one.say(4, 1);
        checks.heardIs(one, row(2, 0, 4, 81, 1));
        checks.is("heard(1, 0) of one", Checks.outcome(() -> one.heard(1, 0)), INDEX);
        // Counted or not as the word was said, whatever the ear is later.
        one.setEar(50);
        one.setBats(0, 20);
        checks.heardIs(one, row(2, 0, 4, 81, 1));
        EchoCave weak = Caves.one(62, 1, 0);
        weak.setEar(50);
        weak.say(4, 1);
        weak.setEar(1);
        checks.heardIs(weak, row(2, 0, 4, 49, 0));
        checks.is("count(9) with a smaller ear since", weak.count(9), 0);
        checks.is("inOrder() with a smaller ear since", weak.inOrder(), false);
        checks.is("first(0) with a smaller ear since", weak.first(0), -1);
    }

    private void inOrderAsItWasSaid() {
        EchoCave cave = Caves.one(100, 1, 0);
        cave.would(1, 1, 1);
        checks.is("inOrder(), only asked what would be", cave.inOrder(), false);
        cave.say(1, 1);
        checks.is("inOrder() of one", cave.inOrder(), true);
        cave.say(123456, 20);
        checks.is("inOrder() of six", cave.inOrder(), true);
        cave.setWater(30);
        cave.setEar(50);
        checks.is("inOrder() later", cave.inOrder(), true);
        EchoCave full = Caves.full();
        checks.is("inOrder() of six, of which three are kept", full.inOrder(), false);
        full.say(999, 1);
        checks.is("inOrder() of three", full.inOrder(), true);
    }

    private void firstOfEachPlace() {
        EchoCave full = Caves.full();
        int[] due = {2, 3, 4, -1, -1, -1};
        for (int place = 0; place < 6; place++) {
            checks.is("first(" + place + ")", full.first(place), due[place]);
        }
        checks.is("first(6) of six", Checks.outcome(() -> full.first(6)), INDEX);
        EchoCave one = Caves.one(100, 9, 0);
        one.say(9, 20);
        checks.is("first(0) of one", one.first(0), 18);
        checks.is("first(1) of one", Checks.outcome(() -> one.first(1)), INDEX);
        one.say(111111, 20);
        checks.is("first(5) of six", one.first(5), 118);
        checks.is("first(6) of six", Checks.outcome(() -> one.first(6)), INDEX);
        // The first one that counted, not the first one that was heard.
        EchoCave later = Caves.one(0, 1, 0);
        later.addPassage(0, 1, 2, 0);
        later.say(1, 1);
        checks.heardIs(later, row(2, 0, 1, 0, 0), row(3, 0, 1, 81, 1));
        checks.is("first(0), the second one heard", later.first(0), 3);
    }

    private void countOfAnEmptyAndAFullCave() {
        int[] empty = {1, 0, 0, 0, 0, 5, 0, 0, 0, 0};
        int[] full = {12, 18, 18, 11, 30, 50, 1, 999999, 60, 60};
        int[] silent = {12, 18, 18, 11, 0, 5, 0, 0, 0, 0};
        for (int what = 0; what <= 9; what++) {
            checks.is("count(" + what + ") of a new one", new EchoCave().count(what), empty[what]);
            checks.is("count(" + what + ") of a full one", Caves.full().count(what), full[what]);
            checks.is("count(" + what + ") of a silent one", Caves.fullAndSilent().count(what), silent[what]);
        }
        EchoCave one = new EchoCave();
        one.say(1, 1);
        checks.is("count(6) of one word", one.count(6), 1);
        checks.is("count(7) of one word", one.count(7), 1);
        one.say(1, 1);
        checks.is("count(6) of the same word twice", one.count(6), 2);
        // Sixty kept, none of which counts.
        EchoCave weak = Caves.nineNarrow(0);
        weak.addPassage(0, 1, 1, 9);
        weak.setEar(50);
        weak.say(111111, 1);
        checks.is("count(8), all weak", weak.count(8), 60);
        checks.is("count(9), all weak", weak.count(9), 0);
    }

    private void wouldIs(EchoCave cave, int word, int beat, int... due) {
        for (int what = 0; what < due.length; what++) {
            checks.is("would(" + word + ", " + beat + ", " + what + ")", cave.would(word, beat, what), due[what]);
        }
    }

    private void wouldOfNothingAndOfMuch() {
        wouldIs(new EchoCave(), 1, 1, 0, 0, -1, 1);
        wouldIs(new EchoCave(), 999999, 20, 0, 0, -1, 6);
        wouldIs(Caves.one(100, 1, 0), 1, 1, 1, 1, 2, 1);
        wouldIs(Caves.one(100, 9, 0), 999999, 20, 6, 1, 118, 6);
        wouldIs(Caves.one(0, 1, 0), 1, 1, 0, 0, -1, 1);
        wouldIs(Caves.side(18), 1234, 1, 60, 1, 5, 4);
        wouldIs(Caves.side(18), 12345, 1, 60, 0, 5, 5);
        wouldIs(Caves.full(), 999999, 1, 60, 0, 4, 17);
        // What would be now, whatever was asked and said before.
        EchoCave low = new EchoCave();
        low.addChamber(100, 29, 0);
        low.addPassage(0, 1, 1, 0);
        low.say(123456, 1);
        wouldIs(low, 123456, 1, 6, 1, 7, 6);
        wouldIs(low, 1, 1, 1, 1, 2, 1);
        low.setWater(30);
        wouldIs(low, 123456, 1, 0, 0, -1, 6);
        wouldIs(low, 1, 1, 0, 0, -1, 1);
        checks.is("would(111112, 20, 2) at 200", Caves.late(5, 0, 4).would(111112, 20, 2), 200);
    }

    private void wouldChangesNothing() {
        EchoCave asked = Caves.full();
        EchoCave twin = Caves.full();
        for (int what = 0; what < 4; what++) {
            asked.would(1, 1, what);
            asked.would(123456, 20, what);
        }
        asked.advise(1, 1, 1, 0);
        asked.advise(123456, 20, 9, 20);
        asked.longest(1, 1);
        asked.longest(9, 20);
        asked.quickest(1);
        asked.quickest(999999);
        asked.way(0, 11);
        asked.highest(11);
        checks.is("what was asked changed nothing", Caves.answers(asked), Caves.answers(twin));
        checks.is("nor what comes of changes", Caves.answersOfChanges(asked), Caves.answersOfChanges(twin));
    }

    /** Eleven chambers without a wall, of which only some are behind a passage. */
    private static EchoCave behindPassages(int... chambers) {
        EchoCave cave = new EchoCave();
        for (int chamber = 1; chamber <= 11; chamber++) {
            cave.addChamber(0, 30, 0);
        }
        for (int chamber : chambers) {
            cave.addPassage(0, chamber, 1, 0);
        }
        return cave;
    }

    private void adviseFromTheChamber1ToTheChamber11() {
        for (int chamber = 1; chamber <= 11; chamber++) {
            checks.is("advise(1, 1, 1, 0), only " + chamber, behindPassages(chamber).advise(1, 1, 1, 0), chamber);
            checks.is("advise(9, 20, 9, 20), only " + chamber, behindPassages(chamber).advise(9, 20, 9, 20), chamber);
        }
        checks.is("advise(1, 1, 1, 0), 1 and 11", behindPassages(11, 1).advise(1, 1, 1, 0), 1);
        checks.is("advise(1, 1, 1, 0), 10 and 11", behindPassages(11, 10).advise(1, 1, 1, 0), 10);
        checks.is("advise(1, 1, 1, 0), none", behindPassages().advise(1, 1, 1, 0), -1);
        checks.is("advise(1, 1, 2, 0), not its syllable", behindPassages(1, 11).advise(1, 1, 2, 0), -1);
        checks.is("advise(11, 1, 1, 0), twice its syllable", behindPassages(1, 11).advise(11, 1, 1, 0), -1);
        // A word of six that comes back anyway does so with a clapper wherever it stands.
        checks.is("advise(123456, 1, 1, 0), by the wall", Caves.one(100, 1, 0).advise(123456, 1, 1, 0), 1);
        checks.is("advise(123456, 1, 6, 20), the sixth", Caves.nineNarrow(5).advise(123456, 1, 6, 20), 6);
        checks.is("advise(123456, 1, 6, 19), the sixth in time", Caves.nineNarrow(5).advise(123456, 1, 6, 19), 6);
        checks.is("advise(123456, 1, 6, 18), the sixth too early", Caves.nineNarrow(5).advise(123456, 1, 6, 18), -1);
    }

    private void advisePutsItInThePlaceOfOne() {
        EchoCave cave = behindPassages(11);
        cave.setClapper(11, 2, 13);
        checks.is("advise(1, 1, 1, 0), in the place of 2", cave.advise(1, 1, 1, 0), 11);
        checks.is("chamber(11, 3) as before", cave.chamber(11, 3), 2);
        checks.is("chamber(11, 4) as before", cave.chamber(11, 4), 13);
        checks.is("count(3) as before", cave.count(3), 1);
        checks.is("say(2, 1) as before", cave.say(2, 1), 1);
        checks.is("heard(1, 0) as before", cave.heard(1, 0), 15);
        checks.is("advise(12, 1, 1, 0), where 2 is needed", cave.advise(12, 1, 1, 0), -1);
        EchoCave two = behindPassages(11, 5);
        two.setClapper(5, 2, 0);
        checks.is("advise(12, 1, 1, 0), beside 2", two.advise(12, 1, 1, 0), 11);
        checks.is("advise(12, 1, 1, 1), beside 2 in time", two.advise(12, 1, 1, 1), 11);
        checks.is("advise(12, 1, 1, 2), beside 2 too late", two.advise(12, 1, 1, 2), -1);
        checks.is("chamber(5, 3) as before", two.chamber(5, 3), 2);
    }

    private void longestFrom0To6() {
        checks.is("longest(1, 1) of nothing", new EchoCave().longest(1, 1), 0);
        checks.is("longest(1, 20) of a clapper", clapperAlone().longest(1, 20), 1);
        checks.is("longest(2, 20) of none", clapperAlone().longest(2, 20), 0);
        for (int syllable = 1; syllable <= 9; syllable += 8) {
            checks.is("longest(" + syllable + ", 1)", Caves.one(100, 9, 0).longest(syllable, 1), 6);
            checks.is("longest(" + syllable + ", 20)", Caves.one(100, 9, 0).longest(syllable, 20), 6);
        }
        // Among the 60 that are kept are four syllables by eighteen passages, and five by twelve.
        checks.is("longest(1, 1) by eighteen", Caves.side(18).longest(1, 1), 4);
        checks.is("longest(1, 1) by twelve", Caves.side(12).longest(1, 1), 5);
    }

    private static EchoCave clapperAlone() {
        EchoCave cave = Caves.one(0, 1, 0);
        cave.setClapper(1, 1, 0);
        return cave;
    }

    private void quickestFrom1To20() {
        for (int word : new int[] {1, 9, 111111, 999999, 123456}) {
            checks.is("quickest(" + word + ")", Caves.one(100, 1, 0).quickest(word), 1);
            checks.is("quickest(" + word + ") of nothing", new EchoCave().quickest(word), -1);
        }
        // The first syllable is heard at 2 + delay, or two later by a passage of 2, the second at 2 + beat.
        int[][] due = {{0, 1, 1}, {1, 1, 1}, {2, 1, 2}, {19, 1, 19}, {20, 1, 20}, {18, 2, 20}, {19, 2, -1},
            {20, 2, -1}};
        for (int[] d : due) {
            EchoCave cave = new EchoCave();
            cave.addChamber(0, 30, 0);
            cave.addChamber(0, 30, 0);
            cave.addPassage(0, 1, d[1], 0);
            cave.addPassage(0, 2, 1, 0);
            cave.setClapper(1, 1, d[0]);
            cave.setClapper(2, 2, 0);
            checks.is("quickest(12), the delay " + d[0] + ", the length " + d[1], cave.quickest(12), d[2]);
        }
    }

    /** Eleven chambers in a row, with heights that fall, and passages that were found from the far end on. */
    private static EchoCave farEndFirst(int length) {
        EchoCave cave = new EchoCave();
        for (int chamber = 1; chamber <= 11; chamber++) {
            cave.addChamber(0, 11 - chamber, 0);
        }
        for (int chamber = 11; chamber >= 1; chamber--) {
            cave.addPassage(chamber, chamber - 1, length, 0);
        }
        return cave;
    }

    private void wayFrom0To99() {
        for (int length = 1; length <= 9; length += 8) {
            EchoCave cave = farEndFirst(length);
            for (int a = 0; a <= 11; a++) {
                for (int b = 0; b <= 11; b++) {
                    checks.is("way(" + a + ", " + b + ")", cave.way(a, b), length * (a < b ? b - a : a - b));
                }
            }
            cave.addPassage(0, 11, 9, 0);
            checks.is("way(0, 11) by another passage", cave.way(0, 11), 9);
            cave.setWater(1);
            checks.is("way(0, 11) under water", cave.way(0, 11), -1);
            checks.is("way(11, 0) under water", cave.way(11, 0), -1);
            checks.is("way(11, 11) under water", cave.way(11, 11), 0);
            checks.is("way(0, 10) at the water", cave.way(0, 10), 10 * length);
            cave.setWater(30);
            checks.is("way(0, 1) under water", cave.way(0, 1), -1);
            checks.is("way(0, 0) at 30", cave.way(0, 0), 0);
        }
        EchoCave apart = new EchoCave();
        apart.addChamber(0, 30, 0);
        checks.is("way(0, 1) without a passage", apart.way(0, 1), -1);
        apart.addPassage(0, 1, 9, 0);
        apart.addPassage(0, 1, 8, 0);
        apart.addPassage(1, 0, 9, 0);
        checks.is("way(0, 1) by the shorter of three", apart.way(0, 1), 8);
        checks.is("way(1, 0) by the shorter of three", apart.way(1, 0), 8);
    }

    private void highestFrom0To30() {
        for (int height = 0; height <= 30; height++) {
            EchoCave cave = new EchoCave();
            cave.addChamber(0, height, 0);
            cave.addChamber(0, 30, 0);
            cave.addChamber(0, 30, 0);
            cave.addPassage(1, 2, 1, 0);
            cave.addPassage(1, 0, 1, 0);
            for (int water = 0; water <= 30; water += 15) {
                cave.setWater(water);
                checks.is("highest(0)", cave.highest(0), 30);
                checks.is("highest(1) of the height " + height, cave.highest(1), height);
                checks.is("highest(2) behind the height " + height, cave.highest(2), height);
                checks.is("highest(3) without a passage", cave.highest(3), -1);
            }
            // A second way is taken where it is the higher one.
            cave.addPassage(2, 3, 1, 0);
            cave.addChamber(0, 15, 0);
            cave.addPassage(3, 4, 1, 0);
            cave.addPassage(4, 0, 1, 0);
            checks.is("highest(2) by two ways", cave.highest(2), height > 15 ? height : 15);
        }
        EchoCave row = farEndFirst(1);
        for (int chamber = 1; chamber <= 11; chamber++) {
            checks.is("highest(" + chamber + ") in a row", row.highest(chamber), 11 - chamber);
        }
    }

    private void meanOfNothingOfOneAndOfSixty() {
        checks.is("mean(), none said", Caves.fullAndSilent().mean(), 0.0);
        EchoCave one = Caves.one(100, 1, 0);
        one.say(1, 1);
        checks.is("mean() of one", one.mean(), 81.0);
        one.setEar(50);
        one.would(123456, 1, 0);
        checks.is("mean() of the latest word", one.mean(), 81.0);
        // Forty-two with 81 and eighteen with 54.
        checks.is("mean() of sixty", Caves.full().mean(), 4374.0 / 60);
        // What does not count is in it too.
        EchoCave weak = Caves.one(26, 1, 9);
        weak.say(1, 1);
        checks.is("mean() of one that does not count", weak.mean(), 4.0);
        EchoCave none = Caves.one(0, 1, 0);
        none.say(1, 1);
        checks.is("mean() of one with 0", none.mean(), 0.0);
        checks.is("count(8) of one with 0", none.count(8), 1);
        none.addPassage(0, 1, 2, 0);
        none.say(1, 1);
        checks.is("mean() of 0 and 81", none.mean(), 40.5);
    }

    /** d over all numbers as whole ones of any size, and cut to 64 bits at the end only. */
    private static long digestOf(List<Integer> numbers) {
        BigInteger d = BigInteger.valueOf(691);
        for (int number : numbers) {
            d = d.multiply(BigInteger.valueOf(31)).add(BigInteger.valueOf(number));
        }
        return d.longValue();
    }

    /** What the calls tell, in the order of the document; a cave for each part keeps to its 512 calls. */
    private static List<Integer> numbersOf(Caves.Maker caves) {
        List<Integer> numbers = new ArrayList<>();
        EchoCave cave = caves.make();
        for (int what = 0; what < 10; what++) {
            numbers.add(cave.count(what));
        }
        for (int chamber = 0; chamber < cave.count(0); chamber++) {
            for (int what = 0; what < 7; what++) {
                numbers.add(cave.chamber(chamber, what));
            }
        }
        for (int passage = 0; passage < cave.count(1); passage++) {
            for (int what = 0; what < 5; what++) {
                numbers.add(cave.passage(passage, what));
            }
        }
        EchoCave heard = caves.make();
        for (int index = 0; index < heard.count(8); index++) {
            for (int what = 0; what < 5; what++) {
                numbers.add(heard.heard(index, what));
            }
        }
        numbers.add(heard.inOrder() ? 1 : 0);
        return numbers;
    }

    private void digestOfAnEmptyAndAFullCave() {
        List<Caves.Maker> caves = List.of(EchoCave::new, Caves::ordinary, Caves::fullAndSilent, Caves::full,
                () -> Caves.nineNarrow(6), PromiseBoundsTest::saidInOrder);
        int[] lengths = {18, 10 + 4 * 7 + 4 * 5 + 5 * Caves.ordinary().count(8) + 1, 10 + 84 + 90 + 1,
            10 + 84 + 90 + 300 + 1, 10 + 70 + 45 + 1, 10 + 14 + 5 + 5 + 1};
        for (int i = 0; i < lengths.length; i++) {
            List<Integer> numbers = numbersOf(caves.get(i));
            checks.is("numbers in the digest of the cave " + i, numbers.size(), lengths[i]);
            checks.is("digest() of the cave " + i, caves.get(i).make().digest(), digestOf(numbers));
        }
    }

    private static EchoCave saidInOrder() {
        EchoCave cave = Caves.one(100, 1, 0);
        cave.say(1, 1);
        return cave;
    }
}
