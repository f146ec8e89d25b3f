import java.util.ArrayList;
import java.util.Arrays;
import java.util.List;

/**
 * For each argument of each call: the smallest and the largest one allowed, one less and one more, and the ends of
 * int; then two wrong ones at once; in a new cave, in an ordinary one, and in a full one. A call that is refused
 * has to leave a cave that answers as one that never had that call.
 */
public final class ArgumentBoundsTest {
    private static final Class<IllegalArgumentException> ARGUMENT = IllegalArgumentException.class;
    private static final Class<IllegalStateException> STATE = IllegalStateException.class;
    private static final Class<IndexOutOfBoundsException> INDEX = IndexOutOfBoundsException.class;
    private static final int MIN = Integer.MIN_VALUE;
    private static final int MAX = Integer.MAX_VALUE;
    private static final int[] WORDS = {1, 9, 11, 19, 91, 99, 111, 1111, 11111, 111111, 999999, 123456};
    private static final int[] NO_WORDS = {
        MIN, -999999, -111111, -11, -1, 0, 10, 90, 101, 110, 900, 1011, 11110, 111110, 111101, 111011, 110111, 101111,
        100000, 1000000, 1000001, 1111111, 9999999, 1111111111, MAX,
    };

    private interface OnCave {
        Object make(EchoCave cave, int[] arguments);
    }

    private record Wrong(int value, Class<? extends RuntimeException> due) {
    }

    /** What an argument may be and what not, beside it the exception for each wrong one. */
    private static final class Argument {
        final List<Integer> right = new ArrayList<>();
        final List<Wrong> wrong = new ArrayList<>();

        static Argument within(int least, int most, Class<? extends RuntimeException> due) {
            Argument argument = new Argument();
            if (least <= most) {
                argument.right.add(least);
                argument.right.add(most);
            }
            for (int value : new int[] {least - 1, most + 1, MIN, MAX}) {
                argument.wrong.add(new Wrong(value, due));
            }
            return argument;
        }

        static Argument word() {
            Argument argument = new Argument();
            for (int word : WORDS) {
                argument.right.add(word);
            }
            for (int word : NO_WORDS) {
                argument.wrong.add(new Wrong(word, ARGUMENT));
            }
            return argument;
        }

        /** The chamber 0 is there, but cannot have a clapper. */
        static Argument chamberOfClapper(int chambers) {
            Argument argument = within(1, chambers - 1, INDEX);
            argument.wrong.set(0, new Wrong(-1, INDEX));
            if (chambers > 1) {
                argument.wrong.add(new Wrong(0, ARGUMENT));
            }
            return argument;
        }
    }

    private final Checks checks = new Checks();
    private String caveName;
    private Caves.Maker caves;

    public static void main(String[] args) {
        ArgumentBoundsTest test = new ArgumentBoundsTest();
        test.everyCall("a new cave", EchoCave::new, 1, 0, 0, 0);
        test.everyCall("an ordinary cave", Caves::ordinary, 4, 4, Caves.ordinary().count(8), 3);
        test.everyCall("a full cave", Caves::full, 12, 18, 60, 6);
        test.everyCall("a full cave, nothing said", Caves::fullAndSilent, 12, 18, 0, 0);
        test.wordsOneByOne();
        test.fullCaveNamesItsFullnessLast();
        test.oneLessThanFullTakesOneMore();
        test.checks.end();
    }

    private void everyCall(String name, Caves.Maker maker, int chambers, int passages, int kept, int places) {
        caveName = name;
        caves = maker;
        callsOfTheCave(chambers, passages);
        callsOfWords(kept, places);
        callsOfWhatWouldBe(chambers);
    }

    private void callsOfTheCave(int chambers, int passages) {
        Argument chamber = Argument.within(0, chambers - 1, INDEX);
        Class<? extends RuntimeException> full = chambers < 12 ? null : STATE;
        bounds("addChamber", full, (c, x) -> c.addChamber(x[0], x[1], x[2]), row(50, 20, 3),
                Argument.within(0, 100, ARGUMENT), Argument.within(0, 30, ARGUMENT), Argument.within(0, 20, ARGUMENT));
        if (chambers > 2) {
            bounds("addPassage", passages < 18 ? null : STATE, (c, x) -> c.addPassage(x[0], x[1], x[2], x[3]),
                    row(1, 2, 5, 4), chamber, chamber, Argument.within(1, 9, ARGUMENT),
                    Argument.within(0, 9, ARGUMENT));
            bounds("addPassage to itself", ARGUMENT, (c, x) -> c.addPassage(x[0], x[0], x[1], x[2]),
                    row(1, 5, 4), chamber, Argument.within(1, 9, ARGUMENT), Argument.within(0, 9, ARGUMENT));
        } else {
            bounds("addPassage from 0 to 0", ARGUMENT, (c, x) -> c.addPassage(x[0], x[1], 1, 0), row(0, 0),
                    chamber, chamber);
        }
        bounds("setWater", null, (c, x) -> c.setWater(x[0]), row(7), Argument.within(0, 30, ARGUMENT));
        bounds("setBats", null, (c, x) -> c.setBats(x[0], x[1]), row(0, 7), chamber,
                Argument.within(0, 20, ARGUMENT));
        Argument syllable = Argument.within(0, 9, ARGUMENT);
        Argument delay = Argument.within(0, 20, ARGUMENT);
        bounds("setClapper", chambers > 1 ? null : INDEX, (c, x) -> c.setClapper(x[0], x[1], x[2]),
                row(1, 3, 4), Argument.chamberOfClapper(chambers), syllable, delay);
        bounds("setClapper in 0", ARGUMENT, (c, x) -> c.setClapper(0, x[0], x[1]), row(3, 4), syllable, delay);
        if (chambers > 1) {
            bounds("setClapper, taken away", null, (c, x) -> c.setClapper(1, 0, x[0]), row(4), delay);
        }
        bounds("setEar", null, (c, x) -> c.setEar(x[0]), row(7), Argument.within(1, 50, ARGUMENT));
        bounds("chamber", null, (c, x) -> c.chamber(x[0], x[1]), row(0, 1), chamber,
                Argument.within(0, 6, INDEX));
        bounds("passage", passages > 0 ? null : INDEX, (c, x) -> c.passage(x[0], x[1]), row(0, 1),
                Argument.within(0, passages - 1, INDEX), Argument.within(0, 4, INDEX));
    }

    private void callsOfWords(int kept, int places) {
        bounds("say", null, (c, x) -> c.say(x[0], x[1]), row(12, 3), Argument.word(),
                Argument.within(1, 20, ARGUMENT));
        bounds("heard", kept > 0 ? null : INDEX, (c, x) -> c.heard(x[0], x[1]), row(0, 1),
                Argument.within(0, kept - 1, INDEX), Argument.within(0, 4, INDEX));
        bounds("first", places > 0 ? null : INDEX, (c, x) -> c.first(x[0]), row(0),
                Argument.within(0, places - 1, INDEX));
        bounds("count", null, (c, x) -> c.count(x[0]), row(0), Argument.within(0, 9, INDEX));
    }

    private void callsOfWhatWouldBe(int chambers) {
        Argument beat = Argument.within(1, 20, ARGUMENT);
        Argument chamber = Argument.within(0, chambers - 1, INDEX);
        Argument syllable = Argument.within(1, 9, ARGUMENT);
        bounds("would", null, (c, x) -> c.would(x[0], x[1], x[2]), row(12, 3, 0), Argument.word(), beat,
                Argument.within(0, 3, INDEX));
        bounds("advise", null, (c, x) -> c.advise(x[0], x[1], x[2], x[3]), row(12, 3, 1, 2), Argument.word(),
                beat, syllable, Argument.within(0, 20, ARGUMENT));
        bounds("longest", null, (c, x) -> c.longest(x[0], x[1]), row(1, 3), syllable, beat);
        bounds("quickest", null, (c, x) -> c.quickest(x[0]), row(12), Argument.word());
        bounds("way", null, (c, x) -> c.way(x[0], x[1]), row(0, 0), chamber, chamber);
        bounds("highest", null, (c, x) -> c.highest(x[0]), row(0), chamber);
    }

    /** otherwise: what the call throws with right arguments too, since the cave is what it is; null for nothing. */
    private void bounds(String call, Class<? extends RuntimeException> otherwise, OnCave on, int[] ordinary,
            Argument... arguments) {
        for (int i = 0; i < arguments.length; i++) {
            for (int value : arguments[i].right) {
                right(call, otherwise, on, with(ordinary, i, value));
            }
            for (Wrong wrong : arguments[i].wrong) {
                refused(call, firstNamed(call, otherwise, wrong.due), on, with(ordinary, i, wrong.value));
            }
            for (int j = i + 1; j < arguments.length; j++) {
                for (Wrong one : arguments[i].wrong) {
                    for (Wrong other : arguments[j].wrong) {
                        refused(call, firstNamed(call, otherwise, firstNamed(call, one.due, other.due)), on,
                                with(with(ordinary, i, one.value), j, other.value));
                    }
                }
            }
        }
    }

    private static int[] row(int... arguments) {
        return arguments;
    }

    private static int[] with(int[] arguments, int at, int value) {
        int[] changed = arguments.clone();
        changed[at] = value;
        return changed;
    }

    /** Of two exceptions the one that the document names first for this call. */
    private static Class<? extends RuntimeException> firstNamed(String call, Class<? extends RuntimeException> one,
            Class<? extends RuntimeException> other) {
        if (one == null || other == null) {
            return one == null ? other : one;
        }
        Class<? extends RuntimeException> first = call.equals("would") ? ARGUMENT : INDEX;
        Class<? extends RuntimeException> second = call.equals("would") ? INDEX : ARGUMENT;
        if (one == first || other == first) {
            return first;
        }
        return one == second || other == second ? second : STATE;
    }

    private String told(String call, int[] arguments) {
        return call + Arrays.toString(arguments) + " in " + caveName;
    }

    private void right(String call, Class<? extends RuntimeException> otherwise, OnCave on, int[] arguments) {
        if (otherwise != null) {
            refused(call, otherwise, on, arguments);
            return;
        }
        EchoCave cave = caves.make();
        String outcome = Checks.outcome(() -> on.make(cave, arguments));
        checks.is(told(call, arguments) + " is refused", outcome.endsWith("Exception"), false);
    }

    private void refused(String call, Class<? extends RuntimeException> due, OnCave on, int[] arguments) {
        EchoCave cave = caves.make();
        EchoCave twin = caves.make();
        String told = told(call, arguments);
        checks.is(told, Checks.outcome(() -> on.make(cave, arguments)), due.getSimpleName());
        checks.is("answers after " + told, Caves.answers(cave), Caves.answers(twin));
        checks.is("changes after " + told, Caves.answersOfChanges(cave), Caves.answersOfChanges(twin));
    }

    /** Each number from below 0 to above 999999, with the number of its runs, which without clappers are its places. */
    private void wordsOneByOne() {
        EchoCave cave = new EchoCave();
        for (int word = -1200; word <= 1001200; word++) {
            if (word % 500 == 0) {
                cave = new EchoCave();
            }
            EchoCave asked = cave;
            int number = word;
            int places = places(word);
            String due = places > 0 ? String.valueOf(places) : ARGUMENT.getSimpleName();
            String got = Checks.outcome(() -> asked.would(number, 1, 3));
            if (!got.equals(due)) {
                checks.is("would(" + word + ", 1, 3)", got, due);
            }
        }
    }

    /** The digits, or 0 if this is no word. */
    private static int places(int word) {
        String digits = String.valueOf(word);
        return digits.length() <= 6 && digits.indexOf('0') < 0 && word > 0 ? digits.length() : 0;
    }

    private void fullCaveNamesItsFullnessLast() {
        caveName = "a full cave";
        caves = Caves::full;
        refused("addChamber", STATE, (c, x) -> c.addChamber(x[0], x[1], x[2]), row(0, 0, 0));
        refused("addChamber", ARGUMENT, (c, x) -> c.addChamber(x[0], x[1], x[2]), row(0, 0, 21));
        refused("addPassage", STATE, (c, x) -> c.addPassage(x[0], x[1], x[2], x[3]), row(0, 1, 1, 0));
        refused("addPassage", ARGUMENT, (c, x) -> c.addPassage(x[0], x[1], x[2], x[3]), row(1, 1, 1, 0));
        refused("addPassage", INDEX, (c, x) -> c.addPassage(x[0], x[1], x[2], x[3]), row(12, 12, 1, 0));
    }

    /** Refused calls take no number: the next chamber and the next passage have the one that they would have had. */
    private void oneLessThanFullTakesOneMore() {
        EchoCave cave = new EchoCave();
        for (int chamber = 1; chamber <= 11; chamber++) {
            checks.is("addChamber(101, 0, 0)", Checks.outcome(() -> cave.addChamber(101, 0, 0)),
                    ARGUMENT.getSimpleName());
            checks.is("addChamber, the chamber " + chamber, cave.addChamber(0, 0, 0), chamber);
        }
        for (int passage = 0; passage < 18; passage++) {
            checks.is("addPassage(0, 11, 10, 0)", Checks.outcome(() -> cave.addPassage(0, 11, 10, 0)),
                    ARGUMENT.getSimpleName());
            checks.is("addPassage(0, 12, 1, 0)", Checks.outcome(() -> cave.addPassage(0, 12, 1, 0)),
                    INDEX.getSimpleName());
            checks.is("addPassage, the passage " + passage, cave.addPassage(0, 11, 1, 0), passage);
        }
        checks.is("a 13th chamber", Checks.outcome(() -> cave.addChamber(0, 0, 0)), STATE.getSimpleName());
        checks.is("a 19th passage", Checks.outcome(() -> cave.addPassage(0, 11, 1, 0)), STATE.getSimpleName());
        checks.is("count(0)", cave.count(0), 12);
        checks.is("count(1)", cave.count(1), 18);
    }
}
