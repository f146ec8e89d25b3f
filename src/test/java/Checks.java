/** Counts and prints what is not as due. */
final class Checks {
    interface Call {
        Object make();
    }

    private int made = 0;
    private int wrong = 0;

    void is(String call, Object got, Object due) {
        made++;
        if (!got.equals(due)) {
            wrong++;
            System.out.println(call + " answered " + got + ", due is " + due);
        }
    }

    /** What a call answers, or the name of what it throws. */
    static String outcome(Call call) {
        try {
            return String.valueOf(call.make());
        } catch (RuntimeException e) {
            return e.getClass().getSimpleName();
        }
    }

    /** The call has to throw just this, and to change nothing. */
    void fails(EchoCave cave, Class<? extends RuntimeException> due, String call, Call made) {
        long before = cave.digest();
        is(call, outcome(made), due.getSimpleName());
        is("digest() after " + call, cave.digest(), before);
    }

    /** Just this is kept of what was heard: a row for each, with what heard() tells in its order. */
    void heardIs(EchoCave cave, int[]... due) {
        is("count(8)", cave.count(8), due.length);
        for (int index = 0; index < due.length && index < cave.count(8); index++) {
            for (int what = 0; what < 5; what++) {
                is("heard(" + index + ", " + what + ")", cave.heard(index, what), due[index][what]);
            }
        }
    }

    void end() {
        System.out.println(made + " checks, " + wrong + " wrong");
        if (wrong != 0 || made == 0) {
            System.exit(1);
        }
    }
}
