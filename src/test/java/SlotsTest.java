/** The promises 25 and 26. */
public final class SlotsTest {
    private static final Checks checks = new Checks("slots");

    private static final int[] WRONG = {-1, 2, 3, Integer.MIN_VALUE, Integer.MAX_VALUE};

    public static void main(String[] args) {
        slotsThereAre();
        nothingHasBeenSaved();
        answersTheTurns();
        restoresTheWholeState();
        theSlotKeepsIt();
        slotsAreTwo();
        savesOverWhatWasSaved();
        saveIsNoAction();
        restoreForgets();
        aRestoreThatThrowsForgetsNothing();
        loadEmptiesBoth();
        slotsAreNoText();
        checks.end();
    }

    /** IndexOutOfBoundsException if there is no such save slot. */
    private static void slotsThereAre() {
        RiverMeeting x = new RiverMeeting();
        for (int slot : WRONG) {
            checks.throwsIndex("save(" + slot + ")", () -> x.save(slot));
            checks.throwsIndex("restore(" + slot + ")", () -> x.restore(slot));
        }
        checks.throwsState("restore(0)", () -> x.restore(0));
        checks.due("save(0)", x.save(0), 0);
        checks.due("save(1)", x.save(1), 0);
        for (int slot : WRONG) {
            checks.throwsIndex("save(" + slot + ") then", () -> x.save(slot));
            checks.throwsIndex("restore(" + slot + ") then", () -> x.restore(slot));
        }
    }

    /** IllegalStateException if nothing has been saved in it. */
    private static void nothingHasBeenSaved() {
        RiverMeeting x = new RiverMeeting();
        checks.throwsState("restore(0) at first", () -> x.restore(0));
        checks.throwsState("restore(1) at first", () -> x.restore(1));
        x.save(1);
        checks.throwsState("restore(0) behind save(1)", () -> x.restore(0));
        checks.due("restore(1) behind save(1)", x.restore(1), 0);
        RiverMeeting y = new RiverMeeting();
        y.save(0);
        checks.throwsState("restore(1) behind save(0)", () -> y.restore(1));
        checks.due("restore(0) behind save(0)", y.restore(0), 0);
    }

    /** save: returns the turns of this game; restore: the turns of this game then. */
    private static void answersTheTurns() {
        String[] games = {
            "", "s", "sd33", "ssn05s", Games.MET, Games.BEFORE_LAST_FLOOD, Games.DRAWN
        };
        int[] turns = {0, 1, 2, 1, 5, 79, 80};
        for (int i = 0; i < games.length; i++) {
            RiverMeeting x = Games.played(games[i]);
            checks.due("save(0) behind " + games[i], x.save(0), turns[i]);
            x.game(3);
            x.step(0);
            x.step(0);
            checks.due("save(1) of another game", x.save(1), 2);
            x.game(4);
            checks.due("restore(0) of " + games[i], x.restore(0), turns[i]);
            checks.due("restore(1) of another game", x.restore(1), 2);
        }
    }

    private static RiverMeeting disturbed(RiverMeeting x) {
        x.set(0, 33);
        x.set(1, 8);
        x.game(99);
        Games.play(x, "d00" + Games.MET.substring(1) + "n98d01swsf");
        x.dam(1, 0);
        return x;
    }

    private static void restoresTheWholeState() {
        String[] games = {
            "", "s", "d33d44wes", "v040v109d00", "n04ewewen05ewewe", Games.STUCK,
            Games.STUCK + "f", Games.MET, Games.DRAWN, Games.BEFORE_LAST_MEETING
        };
        for (String moves : games) {
            for (int slot = 0; slot < 2; slot++) {
                int s = slot;
                checks.sameState("restore(" + s + ") of " + moves, () -> {
                    RiverMeeting x = Games.played(moves);
                    x.save(s);
                    disturbed(x);
                    x.restore(s);
                    return x;
                }, () -> Games.played(moves));
            }
        }
        checks.sameState("refusals", () -> {
            RiverMeeting x = new RiverMeeting();
            x.dam(1, 0);
            x.save(0);
            x.dam(1, 0);
            x.restore(0);
            return x;
        }, () -> {
            RiverMeeting x = new RiverMeeting();
            x.dam(1, 0);
            return x;
        });
    }

    /** The save slot keeps it: what is done behind restore() does not change it. */
    private static void theSlotKeepsIt() {
        String moves = "sd33v109";
        checks.sameState("restore() three times", () -> {
            RiverMeeting x = Games.played(moves);
            x.save(0);
            for (int i = 0; i < 3; i++) {
                disturbed(x);
                x.restore(0);
            }
            return x;
        }, () -> Games.played(moves));
        checks.sameState("moves behind save()", () -> {
            RiverMeeting x = Games.played(moves);
            x.save(0);
            Games.play(x, "eed44");
            return x;
        }, () -> Games.played(moves + "eed44"));
    }

    private static void slotsAreTwo() {
        RiverMeeting x = Games.played("n01s");
        x.save(0);
        Games.play(x, "n02ss");
        x.save(1);
        x.game(3);
        checks.due("restore(0)", x.restore(0), 1);
        checks.due("games of the slot 0", x.about(0), 2);
        checks.due("restore(1)", x.restore(1), 2);
        checks.due("games of the slot 1", x.about(0), 3);
        checks.due("restore(0) again", x.restore(0), 1);
        checks.due("its field", x.cellOf(3, 3, 0), Games.cost(1, 0, 27));
        x.save(1);
        x.game(4);
        checks.due("restore(1) of what was saved there last", x.restore(1), 1);
        checks.due("games of it", x.about(0), 2);
    }

    private static void savesOverWhatWasSaved() {
        RiverMeeting x = new RiverMeeting();
        for (int turns = 0; turns <= 10; turns++) {
            checks.due("save(0)", x.save(0), turns);
            x.step(0);
            checks.due("restore(0)", x.restore(0), turns);
            checks.due("turns", x.about(3), turns);
            x.step(0);
        }
    }

    private static void saveIsNoAction() {
        RiverMeeting x = Games.played("ss");
        x.save(0);
        x.save(1);
        checks.due("undo() behind save()", x.undo(), 1);
        checks.due("undo() behind save()", x.undo(), 0);
        checks.throwsState("undo() of no more", x::undo);
        checks.due("the slots stay", x.restore(0) + x.restore(1), 4);
        checks.sameState("save()", () -> {
            RiverMeeting y = Games.played("sd33");
            y.save(0);
            return y;
        }, () -> Games.played("sd33"));
    }

    /** Forgets all remembered states, and is not remembered itself. */
    private static void restoreForgets() {
        RiverMeeting x = Games.played("ss");
        x.save(0);
        x.step(0);
        x.restore(0);
        checks.throwsState("undo() behind restore()", x::undo);
        x.step(0);
        checks.due("undo() of a step behind it", x.undo(), 0);
        checks.due("turns", x.about(3), 2);
        checks.throwsState("undo() of no more", x::undo);
    }

    private static void aRestoreThatThrowsForgetsNothing() {
        RiverMeeting x = Games.played("sss");
        x.save(0);
        checks.throwsState("restore(1)", () -> x.restore(1));
        checks.throwsIndex("restore(2)", () -> x.restore(2));
        checks.throwsIndex("save(-1)", () -> x.save(-1));
        checks.due("undo() then", x.undo(), 2);
        checks.due("turns then", x.about(3), 2);
        checks.due("the slot 0 then", x.restore(0), 3);
    }

    /** Nothing has been saved in it since the last load. */
    private static void loadEmptiesBoth() {
        RiverMeeting x = Games.written(new RiverMeeting(), "Ws");
        x.save(0);
        x.save(1);
        x.load();
        checks.throwsState("restore(0) behind load()", () -> x.restore(0));
        checks.throwsState("restore(1) behind load()", () -> x.restore(1));
        checks.due("save(1) behind load()", x.save(1), 1);
        checks.throwsState("restore(0) still", () -> x.restore(0));
        checks.due("restore(1)", x.restore(1), 1);
        x.append('x');
        checks.throwsState("load() of no game", x::load);
        checks.due("restore(1) behind a load() that throws", x.restore(1), 1);
    }

    private static void slotsAreNoText() {
        RiverMeeting x = Games.written(new RiverMeeting(), "W");
        x.save(0);
        x.append('s');
        x.restore(0);
        checks.due("the text behind restore()", x.clearText(), 2);
        x.save(1);
        x.append('W');
        x.restore(1);
        checks.due("the text behind restore()", x.clearText(), 1);
        x.game(7);
        checks.due("the slot behind clearText()", x.restore(0), 0);
    }
}
