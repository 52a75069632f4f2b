/** SETTINGS, the promises 10 and 15, and how long dams last. */
public final class SettingsTest {
    private static final Checks checks = new Checks("settings");

    /** Turns of which none touches (3, 3): the player 1 begins, and both end in corners. */
    private static final String OTHER_TURNS = "s".repeat(14) + "ew";

    public static void main(String[] args) {
        atFirst();
        settingsThereAre();
        valuesThereAre();
        answersThePreviousValue();
        aRefusedSetChangesNothing();
        isNoTurn();
        damsLastSoManyTurns();
        damsLastByTheSettingAsItIsThen();
        damsGoAtTheEndOfTheNextTurn();
        damsGoOneByOne();
        setInAGameThatIsOver();
        checks.end();
    }

    /** 0: at first 20; 1: at first 3. */
    private static void atFirst() {
        RiverMeeting x = new RiverMeeting();
        checks.due("setting(0)", x.setting(0), 20);
        checks.due("setting(1)", x.setting(1), 3);
        checks.due("set(0, 20)", x.set(0, 20), 20);
        checks.due("set(1, 3)", x.set(1, 3), 3);
    }

    private static void settingsThereAre() {
        RiverMeeting x = new RiverMeeting();
        int[] wrong = {-1, 2, 3, Integer.MIN_VALUE, Integer.MAX_VALUE};
        for (int what : wrong) {
            checks.throwsArgument("setting(" + what + ")", () -> x.setting(what));
            checks.throwsArgument("set(" + what + ", 1)", () -> x.set(what, 1));
            checks.throwsArgument("set(" + what + ", 0)", () -> x.set(what, 0));
        }
    }

    /** 0: 1 to 40; 1: 1 to 9. */
    private static void valuesThereAre() {
        int[] greatest = {40, 9};
        for (int what = 0; what < 2; what++) {
            int setting = what;
            RiverMeeting x = new RiverMeeting();
            for (int v = 1; v <= greatest[what]; v++) {
                x.set(what, v);
                checks.due("setting(" + what + ")", x.setting(what), v);
                checks.due("the other setting", x.setting(1 - what), what == 0 ? 3 : 20);
            }
            int[] wrong = {
                0, -1, greatest[what] + 1, greatest[what] + 2, Integer.MIN_VALUE, Integer.MAX_VALUE
            };
            for (int v : wrong) {
                checks.throwsArgument("set(" + what + ", " + v + ")", () -> x.set(setting, v));
                checks.due("setting(" + what + ") then", x.setting(what), greatest[what]);
            }
        }
    }

    private static void answersThePreviousValue() {
        RiverMeeting x = new RiverMeeting();
        checks.due("set(0, 40)", x.set(0, 40), 20);
        checks.due("set(0, 1)", x.set(0, 1), 40);
        checks.due("set(0, 1) again", x.set(0, 1), 1);
        checks.due("set(1, 9)", x.set(1, 9), 3);
        checks.due("set(1, 1)", x.set(1, 1), 9);
        checks.due("set(1, 1) again", x.set(1, 1), 1);
        x.game(7);
        checks.due("set(0, 2) in a new game", x.set(0, 2), 1);
        checks.due("set(1, 2) in a new game", x.set(1, 2), 1);
    }

    private static void aRefusedSetChangesNothing() {
        RiverMeeting x = Games.played("v011v107");
        checks.throwsArgument("set(0, 41)", () -> x.set(0, 41));
        checks.throwsArgument("set(1, 10)", () -> x.set(1, 10));
        checks.due("setting(0)", x.setting(0), 11);
        checks.due("setting(1)", x.setting(1), 7);
        checks.due("undo() of the set() before", x.undo(), 1);
    }

    /** This is no turn. */
    private static void isNoTurn() {
        RiverMeeting x = Games.played("sd33");
        x.set(0, 40);
        x.set(1, 9);
        checks.due("turns", x.about(3), 2);
        checks.due("the turn is of", x.about(2), 0);
        checks.due("the dam has stood for", x.cellOf(3, 3, 3), 1);
        checks.due("refused", x.about(7), 0);
    }

    private static void stands(String when, RiverMeeting x, int stood) {
        checks.due("the dam " + when + " has stood for", x.cellOf(3, 3, 3), stood);
        checks.due("content " + when, x.cellOf(3, 3, 2), stood < 0 ? 0 : 4);
        checks.due("dams " + when, x.about(4), stood < 0 ? 0 : 1);
    }

    /** 1 at the end of the turn that built it; gone with as many turns as setting 0. */
    private static void damsLastSoManyTurns() {
        for (int lasting = 1; lasting <= 40; lasting++) {
            RiverMeeting x = new RiverMeeting();
            if (lasting != 20) {
                x.set(0, lasting);
            }
            x.dam(3, 3);
            for (int turns = 1; turns <= 45; turns++) {
                stands("of " + lasting + " turns behind " + turns, x,
                        turns < lasting ? turns : -1);
                if (turns <= OTHER_TURNS.length()) {
                    Games.play(x, OTHER_TURNS.substring(turns - 1, turns));
                } else {
                    x.flood();
                }
            }
            checks.due("dams built", x.playerOf(0, 3), 1);
        }
    }

    private static void damsLastByTheSettingAsItIsThen() {
        RiverMeeting longer = Games.played("d33" + OTHER_TURNS + "ff");
        stands("behind 19 turns", longer, 19);
        longer.set(0, 21);
        longer.flood();
        stands("behind 20 turns of 21", longer, 20);
        longer.set(0, 40);
        longer.flood();
        stands("behind 21 turns of 40", longer, 21);
        longer.set(0, 22);
        longer.flood();
        stands("behind 22 turns of 22", longer, -1);
    }

    /** As many turns as setting 0, or more; at the end of the next turn, not before. */
    private static void damsGoAtTheEndOfTheNextTurn() {
        int[] lasting = {1, 2, 10, 11, 12, 13};
        for (int v : lasting) {
            RiverMeeting x = Games.played("d33" + "s".repeat(10));
            stands("behind 11 turns", x, 11);
            x.set(0, v);
            stands("behind set(0, " + v + ")", x, 11);
            x.step(0);
            stands("behind a turn with " + v, x, v <= 12 ? -1 : 12);
        }
        RiverMeeting x = Games.played("d33s");
        x.set(0, 1);
        checks.due("a dam that is refused", x.dam(1, 0), 1);
        stands("behind what is no turn", x, 2);
        x.set(0, 3);
        x.undo();
        stands("behind undo()", x, 2);
        x.dam(7, 7);
        stands("behind a dam", x, -1);
    }

    private static void damsGoOneByOne() {
        RiverMeeting x = Games.played("v004d33d44sd34");
        checks.due("the first one", x.cellOf(3, 3, 3), -1);
        checks.due("the second one", x.cellOf(4, 4, 3), 3);
        checks.due("the third one", x.cellOf(3, 4, 3), 1);
        x.step(0);
        checks.due("the second one then", x.cellOf(4, 4, 3), -1);
        checks.due("the third one then", x.cellOf(3, 4, 3), 2);
        RiverMeeting y = Games.played("d33d44d34sss");
        y.set(0, 5);
        y.step(0);
        checks.due("dams of 7, 6 and 5 turns, of 5", y.about(4), 0);
    }

    private static void setInAGameThatIsOver() {
        String[] over = {"d33wewew", Games.DRAWN};
        for (String moves : over) {
            RiverMeeting x = Games.played(moves);
            int dams = x.about(4);
            checks.due("set(0, 1) behind " + moves, x.set(0, 1), 20);
            checks.due("set(1, 9) behind " + moves, x.set(1, 9), 3);
            checks.due("dams, as no turn ends any more", x.about(4), dams);
            checks.throwsArgument("set(0, 0) behind " + moves, () -> x.set(0, 0));
            x.game(0);
            x.dam(3, 3);
            checks.due("dams of 1 turn in a new game", x.about(4), 0);
        }
    }
}
