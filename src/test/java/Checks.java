/** Compares answers with those that are due, and ends the test with exit code 1 if one differs. */
final class Checks {
    /** A call of the class under test. */
    interface Call {
        long answer();
    }

    private final String title;
    private int made = 0;
    private int wrong = 0;

    Checks(String title) {
        this.title = title;
    }

    void due(String call, long answered, long due) {
        due(call, Long.toString(answered), Long.toString(due));
    }

    void due(String call, String answered, String due) {
        made++;
        if (!answered.equals(due)) {
            wrong++;
            System.out.println(title + ": " + call + " answered " + answered + ", due is " + due);
        }
    }

    void isTrue(String what, boolean answered) {
        due(what, Boolean.toString(answered), "true");
    }

    /** A loop that came to too few of the cases it looks for has looked at nothing. */
    void seen(String what, int times) {
        isTrue("seen: " + what, times > 0);
    }

    void throwsIndex(String call, Call c) {
        throwsClass(call, c, IndexOutOfBoundsException.class);
    }

    void throwsArgument(String call, Call c) {
        throwsClass(call, c, IllegalArgumentException.class);
    }

    void throwsState(String call, Call c) {
        throwsClass(call, c, IllegalStateException.class);
    }

    /** The very class is due: what the machine throws is of a class below it. */
    private void throwsClass(String call, Call c, Class<? extends RuntimeException> due) {
        String answered;
        try {
            answered = "answer " + c.answer();
        } catch (RuntimeException e) {
            answered = e.getClass().getName();
        }
        due(call, answered, due.getName());
    }

    /** Both objects must look alike in all that the document tells of them. */
    void alike(String call, Looks.Maker one, Looks.Maker other) {
        due(call, Looks.all(one), Looks.all(other));
    }

    /** Both objects must be in the same state, whatever their texts, slots and memories. */
    void sameState(String call, Looks.Maker one, Looks.Maker other) {
        due(call, Looks.state(one), Looks.state(other));
    }

    void end() {
        System.out.println(title + ": " + made + " answers, " + wrong + " not as due");
        if (wrong != 0) {
            System.exit(1);
        }
    }
}
