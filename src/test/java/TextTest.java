/** TEXT, and the promises 2 to 5. */
public final class TextTest {
    private static final Checks checks = new Checks("text");

    private static final String DIGITS = "0123456789";

    /** Each command of one sign, n, d and v. */
    private static final String COMMANDS = "sewfbndv";

    public static void main(String[] args) {
        codesThereAre();
        atMost120Characters();
        clears();
        theEmptyText();
        beginsWithAW();
        eachSignAtEachPlace();
        noBlanks();
        endsTooSoon();
        theFirstErrorCounts();
        errorsOfAFullText();
        commandsAreTheirCalls();
        seedsOfTwoDigits();
        leavesOutStepsAndDams();
        leavesOutWhatWouldThrow();
        leavesOutBehindAGame();
        bThatTellsNoneIsNotLeftOut();
        leftOutIsRefusedNowhere();
        loadsAFullText();
        loadsAsInANewObject();
        loadForgetsAndEmpties();
        loadsAgain();
        textsThatAreNoGame();
        textsAreNoPartOfTheState();
        checks.end();
    }

    /** c: character code, 0 to 255. */
    private static void codesThereAre() {
        RiverMeeting x = new RiverMeeting();
        int[] wrong = {-1, 256, 257, -256, 65536, Integer.MIN_VALUE, Integer.MAX_VALUE};
        for (int c : wrong) {
            checks.throwsArgument("append(" + c + ")", () -> x.append(c));
        }
        checks.due("the text is empty still", x.clearText(), 0);
        for (int c = 0; c <= 255; c++) {
            checks.due("append(" + c + ")", x.append(c), c % 100 + 1);
            if (c % 100 == 99) {
                checks.due("clearText()", x.clearText(), 100);
            }
        }
    }

    /** IllegalStateException if the text already has 120 characters; wrong codes come first. */
    private static void atMost120Characters() {
        RiverMeeting x = new RiverMeeting();
        checks.due("append('W')", x.append('W'), 1);
        for (int length = 2; length <= 120; length++) {
            checks.due("append('s')", x.append('s'), length);
        }
        checks.throwsState("append() to a full text", () -> x.append('s'));
        checks.throwsState("append(0) to a full text", () -> x.append(0));
        checks.throwsState("append(255) to a full text", () -> x.append(255));
        checks.throwsArgument("append(256) to a full text", () -> x.append(256));
        checks.throwsArgument("append(-1) to a full text", () -> x.append(-1));
        checks.due("the full text is a game still", x.errorPosition(), -1);
        checks.due("clearText() of a full text", x.clearText(), 120);
        checks.due("append() behind it", x.append('W'), 1);
    }

    /** Empties the text buffer; returns the previous length. */
    private static void clears() {
        RiverMeeting x = new RiverMeeting();
        checks.due("clearText() of no text", x.clearText(), 0);
        Games.written(x, "Wss");
        checks.due("clearText()", x.clearText(), 3);
        checks.due("errorPosition() of no text", x.errorPosition(), 0);
        checks.due("clearText() again", x.clearText(), 0);
        Games.written(x, "W");
        checks.due("errorPosition() of the new text", x.errorPosition(), -1);
        checks.due("clearText() of one character", x.clearText(), 1);
    }

    private static void error(String text, int due) {
        RiverMeeting x = Games.written(new RiverMeeting(), text);
        checks.due("errorPosition() of '" + text + "'", x.errorPosition(), due);
        checks.due("errorPosition() once more", x.errorPosition(), due);
        checks.due("the length of '" + text + "'", x.clearText(), text.length());
    }

    /** If the text ends too soon, it is the length of the text: 0 without a text. */
    private static void theEmptyText() {
        error("", 0);
        RiverMeeting x = new RiverMeeting();
        checks.throwsState("load() of no text", x::load);
    }

    /** A game as a text is the letter W, and then any number of commands. */
    private static void beginsWithAW() {
        error("W", -1);
        error("w", 0);
        error("s", 0);
        error("sW", 0);
        error("WW", 1);
        error("WsW", 2);
        error("Ws", -1);
    }

    /** Puts each of the 256 signs behind the text, and checks which are allowed there. */
    private static void allowedBehind(String text, String allowed, boolean complete) {
        for (int c = 0; c <= 255; c++) {
            RiverMeeting x = Games.written(new RiverMeeting(), text);
            x.append(c);
            boolean good = allowed.indexOf(c) >= 0;
            boolean whole = complete || text.equals("W") && "sewfb".indexOf(c) >= 0;
            int due = !good ? text.length() : whole ? -1 : text.length() + 1;
            checks.due("errorPosition() of '" + text + "' and " + c, x.errorPosition(), due);
        }
    }

    /** A digit is not allowed if no number that is allowed begins with it and those before. */
    private static void eachSignAtEachPlace() {
        allowedBehind("", "W", true);
        allowedBehind("W", COMMANDS, false);
        allowedBehind("Wn", DIGITS, false);
        allowedBehind("Wn0", DIGITS, true);
        allowedBehind("Wn9", DIGITS, true);
        allowedBehind("Wd", "01234567", false);
        allowedBehind("Wd0", "01234567", true);
        allowedBehind("Wd7", "01234567", true);
        allowedBehind("Wv", "01", false);
        allowedBehind("Wv0", "01234", false);
        allowedBehind("Wv1", "01234", false);
        allowedBehind("Wv00", "123456789", true);
        allowedBehind("Wv01", DIGITS, true);
        allowedBehind("Wv03", DIGITS, true);
        allowedBehind("Wv04", "0", true);
        allowedBehind("Wv10", "123456789", true);
        allowedBehind("Wv13", DIGITS, true);
        allowedBehind("Wv14", "0", true);
        for (String whole : new String[] {"Wn12", "Wd34", "Wv020", "Wv140"}) {
            error(whole + "0", whole.length());
            error(whole + "s", -1);
            error(whole + "n", whole.length() + 1);
        }
    }

    private static void noBlanks() {
        error(" W", 0);
        error("W ", 1);
        error("W s", 1);
        error("Ws s", 2);
        error("Wn 12", 2);
        error("Wn1 2", 3);
        error("Wd1 2", 3);
        error("Wv0 12", 3);
        error("Ws\n", 2);
    }

    /** If the text ends too soon, it is the length of the text. */
    private static void endsTooSoon() {
        error("Wn", 2);
        error("Wn9", 3);
        error("Wd", 2);
        error("Wd7", 3);
        error("Wv", 2);
        error("Wv1", 3);
        error("Wv14", 4);
        error("Wsssd", 5);
        error("Wn00d00v001sewfbv0", 18);
    }

    /** The index of the first character that these rules do not allow at its place. */
    private static void theFirstErrorCounts() {
        error("Wxx", 1);
        error("Wsxsx", 2);
        error("Wd8x", 2);
        error("Wd88", 2);
        error("Wd08", 3);
        error("Wv099", 3);
        error("Wv049", 4);
        error("Wv2", 2);
        error("Wv000s", 4);
        error("Wsd", 3);
        error("Wsd9", 3);
    }

    private static String full(String begin, String end) {
        return begin + "s".repeat(120 - begin.length() - end.length()) + end;
    }

    private static void errorsOfAFullText() {
        error(full("W", ""), -1);
        error(full("W", "b"), -1);
        error(full("W", "d77"), -1);
        error(full("W", "v040"), -1);
        error(full("W", "v041"), 119);
        error(full("W", "x"), 119);
        error(full("W", "d"), 120);
        error(full("W", "n9"), 120);
        error(full("W", "v04"), 120);
        error(full("w", ""), 0);
        error(full("W", "").substring(0, 119), -1);
    }

    private static int leftOut(String text) {
        RiverMeeting x = Games.written(new RiverMeeting(), text);
        int left = x.load();
        checks.due("refused in '" + text + "'", x.about(7), 0);
        return left;
    }

    private static void leftOutDue(String text, int due) {
        checks.due("load() of '" + text + "'", leftOut(text), due);
    }

    /** s, e, w: step() with 0, 1, 2; n: game(); d: dam(); f: flood(); b: step(best()); v: set(). */
    private static void commandsAreTheirCalls() {
        String[] games = {
            "", "s", "e", "w", "b", "n00", "n99", "d33", "d07d70", "v001", "v040", "v101", "v109",
            Games.MET, Games.STUCK + "f", "bbbbbbbb", "n17bbbbbbbbbbbb", "sewn42ewsd36b",
            "v003d33d44d55v105b", Games.SIDE_BY_SIDE, Games.DRAWN,
            "n55ewewe" + "n56ewewe" + "n57ewewe" + "n58ss", Games.BEFORE_LAST_MEETING + "w"
        };
        for (String moves : games) {
            leftOutDue("W" + moves, 0);
            checks.sameState("load() of '" + moves + "'", () -> Games.loaded("W" + moves),
                    () -> Games.played(moves));
        }
    }

    /** n and two digits (00 to 99): game(), with that seed. */
    private static void seedsOfTwoDigits() {
        for (int seed = 0; seed <= 99; seed++) {
            RiverMeeting x = Games.loaded("Wn" + seed / 10 + seed % 10);
            checks.due("games", x.about(0), 2);
            for (int cell = 0; cell < 64; cell += 21) {
                checks.due("cost for 0 with the seed " + seed, x.cellOf(cell % 8, cell / 8, 0),
                        Games.cost(seed, 0, cell));
                checks.due("cost for 1 with the seed " + seed, x.cellOf(cell % 8, cell / 8, 1),
                        Games.cost(seed, 1, cell));
            }
        }
    }

    /** Steps and dams that are not possible are left out, for each of their reasons. */
    private static void leavesOutStepsAndDams() {
        leftOutDue("Wwsw", 1);
        leftOutDue("Wwse", 1);
        leftOutDue("Wsd12s", 1);
        leftOutDue("Wwsww", 2);
        leftOutDue("W" + "s".repeat(15), 1);
        leftOutDue("W" + "s".repeat(16), 2);
        leftOutDue("Wd10", 1);
        leftOutDue("Wd60d10d33", 2);
        leftOutDue("Wd33d33", 1);
        leftOutDue("Wd30d40d31d41d32d42d33", 1);
        leftOutDue("Wd30d40d31d41d32d42d43sd43", 2);
        leftOutDue("Wwed01", 1);
        leftOutDue("Wd01swd77", 1);
        RiverMeeting x = Games.loaded("Wwwswsww");
        checks.due("turns, but for a step", x.about(3), 6);
        checks.due("the turn is of", x.about(2), 0);
        checks.due("the head of 0", x.playerOf(0, 1), 16);
        checks.due("the head of 1", x.playerOf(1, 1), 3);
    }

    /** Commands that would throw an exception are left out. */
    private static void leavesOutWhatWouldThrow() {
        leftOutDue("Wf", 1);
        leftOutDue("Wffff", 4);
        leftOutDue("W" + Games.STUCK + "ff", 1);
        leftOutDue("Wv109", 0);
        leftOutDue("Wv110", 1);
        leftOutDue("Wv140v101v119v120", 3);
        leftOutDue("Wv001v040v009v010", 0);
        RiverMeeting x = Games.loaded("Wv107v110v005f");
        checks.due("setting(1)", x.setting(1), 7);
        checks.due("setting(0)", x.setting(0), 5);
        checks.due("floods", x.about(8), 0);
        checks.due("turns", x.about(3), 0);
    }

    private static void leavesOutBehindAGame() {
        leftOutDue("W" + Games.MET, 0);
        leftOutDue("W" + Games.MET + "sewd77f", 5);
        leftOutDue("W" + Games.MET + "v001v105v110", 1);
        leftOutDue("W" + Games.MET + "d10n03s", 1);
        leftOutDue("W" + Games.DRAWN + "fsd33", 3);
        leftOutDue("W" + Games.BEFORE_LAST_FLOOD + "ff", 1);
        RiverMeeting x = Games.loaded("W" + Games.MET + "sv105n03s");
        checks.due("games", x.about(0), 2);
        checks.due("turns", x.about(3), 1);
        checks.due("setting(1)", x.setting(1), 5);
    }

    /** b: nothing if it tells none (a b that does nothing is none of these). */
    private static void bThatTellsNoneIsNotLeftOut() {
        leftOutDue("W" + Games.STUCK + "b", 0);
        leftOutDue("W" + Games.STUCK + "bbb", 0);
        leftOutDue("W" + Games.STUCK + "bsb", 1);
        leftOutDue("W" + Games.MET + "bb", 0);
        leftOutDue("W" + Games.DRAWN + "b", 0);
        RiverMeeting x = Games.loaded("W" + Games.STUCK + "bb");
        checks.due("turns", x.about(3), 4);
        checks.due("the turn is of", x.about(2), 0);
    }

    /** These count as refused nowhere; calls behind a load() count from 0. */
    private static void leftOutIsRefusedNowhere() {
        RiverMeeting x = Games.loaded("Wwsw" + "d10" + "d01" + "f" + "v110");
        checks.due("refused", x.about(7), 0);
        x.dam(1, 0);
        checks.due("refused then", x.about(7), 1);
        x.load();
        checks.due("refused behind load()", x.about(7), 0);
    }

    private static void loadsAFullText() {
        RiverMeeting x = new RiverMeeting();
        Games.written(x, "W" + "v040".repeat(29) + "sew");
        checks.due("load() of 120 characters", x.load(), 0);
        checks.due("turns", x.about(3), 3);
        checks.due("the last command is done", x.playerOf(0, 1), 8);
        checks.due("the text stays", x.clearText(), 120);
        RiverMeeting last = Games.loaded("W" + "f".repeat(115) + "v008");
        checks.due("the last command is done", last.setting(0), 8);
        RiverMeeting none = Games.written(new RiverMeeting(), "W" + "f".repeat(119));
        checks.due("load() of 119 commands left out", none.load(), 119);
        checks.sameState("load() of the letter W alone", () -> Games.loaded("W"),
                RiverMeeting::new);
    }

    private static RiverMeeting used() {
        RiverMeeting x = Games.played("v007v109 n01ewewe n04ewewe n06d01swsf n05sd77");
        x.dam(7, 7);
        x.dam(7, 7);
        x.save(0);
        x.step(0);
        x.save(1);
        return x;
    }

    /** Makes everything as in a new object, and then does the commands of the text. */
    private static void loadsAsInANewObject() {
        RiverMeeting x = used();
        checks.isTrue("refused, floods and wins", x.about(7) > 0 && x.about(8) > 0
                && x.playerOf(0, 4) + x.playerOf(1, 4) > 0);
        String[] texts = {"W", "Wse", "Wd33sn12b", "Wv003" + Games.MET};
        for (String text : texts) {
            checks.alike("load() of '" + text + "' into a used object", () -> {
                RiverMeeting y = Games.written(used(), text);
                y.load();
                return y;
            }, () -> Games.loaded(text));
        }
    }

    /** Behind it no state is remembered, and both save slots are empty; keeps the text. */
    private static void loadForgetsAndEmpties() {
        RiverMeeting x = Games.written(used(), "Wsen03b");
        checks.due("load()", x.load(), 0);
        checks.throwsState("undo()", x::undo);
        checks.throwsState("restore(0)", () -> x.restore(0));
        checks.throwsState("restore(1)", () -> x.restore(1));
        checks.due("games", x.about(0), 2);
        x.step(0);
        checks.due("undo() of an action behind it", x.undo(), 0);
        checks.throwsState("undo() of more", x::undo);
        checks.due("save(1)", x.save(1), 1);
        checks.due("restore(1)", x.restore(1), 1);
        checks.throwsState("restore(0) still", () -> x.restore(0));
        checks.due("the text stays", x.errorPosition(), -1);
        checks.due("its length stays", x.clearText(), 7);
    }

    private static void loadsAgain() {
        RiverMeeting x = Games.written(new RiverMeeting(), "Wsd12sf");
        checks.due("load()", x.load(), 2);
        x.step(1);
        checks.due("load() again", x.load(), 2);
        checks.due("games as behind one load()", x.about(0), 1);
        checks.due("turns as behind one load()", x.about(3), 2);
        x.append('e');
        checks.due("load() of the longer text", x.load(), 2);
        checks.due("turns then", x.about(3), 3);
    }

    /** IllegalStateException if the text is not a game; keeps the text, and changes nothing. */
    private static void textsThatAreNoGame() {
        String[] texts = {"", "w", "Wx", "Wd", "Wd1", "Wd18", "Wv041", "Ws ", full("W", "d")};
        for (String text : texts) {
            RiverMeeting x = Games.written(used(), text);
            checks.throwsState("load() of '" + text + "'", x::load);
            checks.alike("a load() of '" + text + "' that throws", () -> {
                RiverMeeting y = Games.written(used(), text);
                try {
                    y.load();
                } catch (IllegalStateException e) {
                    return y;
                }
                return new RiverMeeting();
            }, () -> Games.written(used(), text));
        }
    }

    /** Calls of the section "text" are no actions, and undo() leaves the text. */
    private static void textsAreNoPartOfTheState() {
        RiverMeeting x = new RiverMeeting();
        x.append('W');
        x.append('s');
        x.errorPosition();
        x.clearText();
        checks.throwsState("undo() of texts", x::undo);
        Games.written(x, "Wss");
        x.step(0);
        x.append('e');
        x.undo();
        checks.due("the text behind undo()", x.clearText(), 4);
        checks.due("turns behind undo()", x.about(3), 0);
    }
}
