/**
 * All that an object answers, in one text. Each part is asked of an object made anew, as the
 * document promises nothing behind the 512th call.
 */
final class Looks {
    /** Makes the object that is looked at; each time by the same calls. */
    interface Maker {
        RiverMeeting make();
    }

    private Looks() {
    }

    /** The state: everything but the text, the save slots and what is remembered. */
    static String state(Maker maker) {
        StringBuilder all = new StringBuilder();
        numbers(maker.make(), all);
        courses(maker.make(), all);
        questions(maker.make(), all);
        costs(maker.make(), all);
        contents(maker.make(), all);
        return all.toString();
    }

    static String all(Maker maker) {
        StringBuilder all = new StringBuilder(state(maker));
        dams(maker.make(), all);
        remembered(maker.make(), all);
        slot(maker.make(), 0, all);
        slot(maker.make(), 1, all);
        text(maker.make(), all);
        game(maker.make(), all);
        return all.toString();
    }

    private static void numbers(RiverMeeting x, StringBuilder all) {
        all.append("about");
        for (int what = 0; what <= 8; what++) {
            all.append(' ').append(x.about(what));
        }
        for (int p = 0; p < 2; p++) {
            all.append("; player");
            for (int what = 0; what <= 5; what++) {
                all.append(' ').append(x.playerOf(p, what));
            }
        }
        all.append("; settings ").append(x.setting(0)).append(' ').append(x.setting(1));
    }

    private static void courses(RiverMeeting x, StringBuilder all) {
        for (int p = 0; p < 2; p++) {
            all.append("; course");
            int length = x.playerOf(p, 0);
            for (int k = 0; k < length; k++) {
                all.append(' ').append(x.course(p, k));
            }
        }
    }

    private static void questions(RiverMeeting x, StringBuilder all) {
        all.append("; why ").append(x.why(0)).append(x.why(1)).append(x.why(2));
        for (int p = 0; p < 2; p++) {
            all.append("; ways ").append(x.cheapest(p, 0)).append(' ').append(x.cheapest(p, 1))
                    .append(' ').append(x.meetsIn(p));
        }
        all.append("; least wished ").append(x.leastWished()).append("; best ").append(x.best());
    }

    private static void costs(RiverMeeting x, StringBuilder all) {
        all.append("; costs ");
        for (int cell = 0; cell < 64; cell++) {
            all.append(x.cellOf(cell % 8, cell / 8, 0)).append(x.cellOf(cell % 8, cell / 8, 1));
        }
    }

    private static void contents(RiverMeeting x, StringBuilder all) {
        all.append("; contents");
        for (int cell = 0; cell < 64; cell++) {
            int there = x.cellOf(cell % 8, cell / 8, 2);
            int stood = x.cellOf(cell % 8, cell / 8, 3);
            if (there != 0 || stood != -1) {
                all.append(' ').append(cell).append(':').append(there).append('/').append(stood);
            }
        }
    }

    private static void dams(RiverMeeting x, StringBuilder all) {
        all.append("; dams ");
        for (int cell = 0; cell < 64; cell++) {
            all.append(x.whyDam(cell % 8, cell / 8));
        }
    }

    /** Some of the state behind each undo(), until it throws. */
    private static void remembered(RiverMeeting x, StringBuilder all) {
        all.append("; undo");
        for (int i = 0; i < 20; i++) {
            try {
                all.append(' ').append(x.undo());
            } catch (IllegalStateException e) {
                all.append(" none");
                return;
            }
            all.append('(').append(x.about(0)).append(' ').append(x.about(3)).append(' ')
                    .append(x.about(4)).append(' ').append(x.about(7)).append(' ')
                    .append(x.playerOf(0, 1)).append(' ').append(x.playerOf(1, 1)).append(' ')
                    .append(x.setting(0)).append(' ').append(x.setting(1)).append(')');
        }
    }

    private static void slot(RiverMeeting x, int slot, StringBuilder all) {
        all.append("; slot ");
        try {
            all.append(x.restore(slot)).append(' ');
        } catch (IllegalStateException e) {
            all.append("empty");
            return;
        }
        numbers(x, all);
    }

    private static void text(RiverMeeting x, StringBuilder all) {
        all.append("; text ").append(x.errorPosition()).append(' ').append(x.clearText());
    }

    private static void game(RiverMeeting x, StringBuilder all) {
        all.append("; load ");
        try {
            all.append(x.load()).append(' ');
        } catch (IllegalStateException e) {
            all.append("none");
            return;
        }
        numbers(x, all);
    }
}
