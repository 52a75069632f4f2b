/** Compares answers with those that are due, and ends the test with exit code 1 if one differs. */
final class Checks {
    /** A call of the class under test. */
    interface Call {
        long answer();
    }

    private final String title;
    private int made = 0;
    private int wrong = 0;

    Checks(String title) {
        this.title = title;
    }

    void due(String call, long answered, long due) {
        made++;
        if (answered != due) {
            wrong++;
            System.out.println(title + ": " + call + " answered " + answered + ", due is " + due);
        }
    }

    void throwsIndex(String call, Call c) {
        throwsClass(call, c, IndexOutOfBoundsException.class);
    }

    void throwsArgument(String call, Call c) {
        throwsClass(call, c, IllegalArgumentException.class);
    }

    void throwsState(String call, Call c) {
        throwsClass(call, c, IllegalStateException.class);
    }

    private void throwsClass(String call, Call c, Class<? extends RuntimeException> due) {
        made++;
        String answered;
        try {
            answered = "answered " + c.answer();
        } catch (RuntimeException e) {
            if (e.getClass() == due) {
                return;
            }
            answered = "threw " + e.getClass().getName();
        }
        wrong++;
        System.out.println(title + ": " + call + " " + answered + ", due is " + due.getName());
    }

    void end() {
        System.out.println(title + ": " + made + " answers, " + wrong + " not as due");
        if (wrong != 0) {
            System.exit(1);
        }
    }

    // ---- what several tests need

    static void write(RiverMeeting x, String text) {
        x.clearText();
        for (int i = 0; i < text.length(); i++) {
            x.append(text.charAt(i));
        }
    }

    static RiverMeeting loaded(String text) {
        RiverMeeting x = new RiverMeeting();
        write(x, text);
        x.load();
        return x;
    }

    /** The cost of a cell as the document tells it, counted anew. */
    static int cost(long seed, int p, int cell) {
        long x = seed;
        int r = 0;
        for (int i = 0; i <= cell; i++) {
            x = x * 6364136223846793005L + 1442695040888963407L;
            r = (int) (x >>> 33);
        }
        return p == 0 ? r % 10 : r / 10 % 10;
    }

    /** All that the object tells of itself, but for the text and the remembered states. */
    static String told(RiverMeeting x) {
        StringBuilder all = new StringBuilder();
        for (int what = 0; what <= 8; what++) {
            all.append(x.about(what)).append(' ');
        }
        for (int p = 0; p < 2; p++) {
            for (int what = 0; what <= 5; what++) {
                all.append(x.playerOf(p, what)).append(' ');
            }
            for (int k = 0; k < x.playerOf(p, 0); k++) {
                all.append(x.course(p, k)).append(' ');
            }
            all.append(x.setting(p)).append(' ');
        }
        for (int cell = 0; cell < 64; cell++) {
            for (int what = 0; what <= 3; what++) {
                all.append(x.cellOf(cell % 8, cell / 8, what)).append(' ');
            }
        }
        return all.toString();
    }

    /** Checks that what the object tells is the same as before. */
    void same(String call, String before, RiverMeeting x) {
        due(call + " leaves all as it was", told(x).equals(before) ? 1 : 0, 1);
    }
}
