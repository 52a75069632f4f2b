/** Promises 2 to 5. */
public final class TextTest {
    private static final Checks checks = new Checks("text");

    public static void main(String[] args) {
        appends();
        clears();
        findsErrors();
        findsErrorsInNumbers();
        loads();
        leavesOut();
        makesAllNew();
        refusesWhatIsNoGame();
        checks.end();
    }

    private static void appends() {
        RiverMeeting x = new RiverMeeting();
        checks.throwsArgument("append(-1)", () -> x.append(-1));
        checks.throwsArgument("append(256)", () -> x.append(256));
        checks.throwsArgument("append(least int)", () -> x.append(Integer.MIN_VALUE));
        checks.throwsArgument("append(greatest int)", () -> x.append(Integer.MAX_VALUE));
        checks.due("append(0)", x.append(0), 1);
        checks.due("append(255)", x.append(255), 2);
        for (int length = 3; length <= 120; length++) {
            checks.due("append('s')", x.append('s'), length);
        }
        checks.throwsState("append to a full text", () -> x.append('s'));
        checks.throwsArgument("append(256) to a full text", () -> x.append(256));
        checks.due("clearText() of a full text", x.clearText(), 120);
        checks.due("append after it", x.append('W'), 1);
    }

    private static void clears() {
        RiverMeeting x = new RiverMeeting();
        checks.due("clearText() at first", x.clearText(), 0);
        Checks.write(x, "Wsx");
        checks.due("clearText()", x.clearText(), 3);
        checks.due("clearText() again", x.clearText(), 0);
        checks.due("errorPosition() then", x.errorPosition(), 0);
    }

    private static int errorOf(String text) {
        RiverMeeting x = new RiverMeeting();
        Checks.write(x, text);
        return x.errorPosition();
    }

    private static void error(String text, int due) {
        checks.due("errorPosition() of '" + text + "'", errorOf(text), due);
    }

    private static void findsErrors() {
        error("", 0);
        error("w", 0);
        error("s", 0);
        error("xW", 0);
        error(" W", 0);
        error("W", -1);
        error("WW", 1);
        error("W ", 1);
        error("W s", 1);
        error("Wsewfb", -1);
        error("Wsewfbx", 6);
        error("WS", 1);
        error("W0", 1);
        error("W\u0000", 1);
        error("Ws\u00ff", 2);
        error("Wseg", 3);
        StringBuilder full = new StringBuilder("W");
        while (full.length() < 120) {
            full.append('s');
        }
        error(full.toString(), -1);
        full.setCharAt(119, 'd');
        error(full.toString(), 120);
        full.setCharAt(119, 'x');
        error(full.toString(), 119);
    }

    private static void findsErrorsInNumbers() {
        error("Wn", 2);
        error("Wn0", 3);
        error("Wn00", -1);
        error("Wn99", -1);
        error("Wnx", 2);
        error("Wn1x", 3);
        error("Wn/0", 2);
        error("Wn:0", 2);
        error("Wn123", 4);
        error("Wd", 2);
        error("Wd7", 3);
        error("Wd77", -1);
        error("Wd00s", -1);
        error("Wd80", 2);
        error("Wd08", 3);
        error("Wd-1", 2);
        error("Wv", 2);
        error("Wv0", 3);
        error("Wv00", 4);
        error("Wv000", 4);
        error("Wv001", -1);
        error("Wv009", -1);
        error("Wv010", -1);
        error("Wv039", -1);
        error("Wv040", -1);
        error("Wv041", 4);
        error("Wv049", 4);
        error("Wv050", 3);
        error("Wv090", 3);
        error("Wv101", -1);
        error("Wv140", -1);
        error("Wv141", 4);
        error("Wv201", 2);
        error("Wv2", 2);
        error("Wv0s", 3);
        error("Wv01s", 4);
        error("Wv4", 2);
        error("Wv0400", 5);
    }

    private static void loads() {
        RiverMeeting x = new RiverMeeting();
        Checks.write(x, "Wn07d33sev105v030");
        checks.due("load()", x.load(), 0);
        checks.due("games", x.about(0), 2);
        checks.due("turns", x.about(3), 3);
        checks.due("costs", x.cellOf(5, 6, 0), Checks.cost(7, 0, 53));
        checks.due("the dam", x.cellOf(3, 3, 3), 3);
        checks.due("head of 0", x.playerOf(0, 1), 2);
        checks.due("head of 1", x.playerOf(1, 1), 14);
        checks.due("setting 0", x.setting(0), 30);
        checks.due("setting 1", x.setting(1), 5);
        checks.due("the text stays", x.clearText(), 17);
        RiverMeeting west = Checks.loaded("Ww");
        checks.due("w", west.playerOf(0, 1), 0);
        RiverMeeting best = new RiverMeeting();
        int direction = best.best();
        RiverMeeting b = Checks.loaded("Wb");
        checks.due("b makes a turn", b.about(3), 1);
        best.step(direction);
        checks.due("b goes as best() tells", b.playerOf(0, 1), best.playerOf(0, 1));
        RiverMeeting f = Checks.loaded("Wd01sw");
        checks.due("no flood yet", f.about(8), 0);
        Checks.write(f, "Wd01swsf");
        checks.due("load() with a flood", f.load(), 0);
        checks.due("a flood", f.about(8), 1);
        checks.due("the flood is paid", f.playerOf(0, 2), 5 + Checks.cost(0, 0, 0));
        checks.due("the dam is gone", f.about(4), 0);
    }

    private static int leftOut(String text) {
        RiverMeeting x = new RiverMeeting();
        Checks.write(x, text);
        int left = x.load();
        checks.due("refused in '" + text + "'", x.about(7), 0);
        return left;
    }

    private static void leftOutDue(String text, int due) {
        checks.due("load() of '" + text + "'", leftOut(text), due);
    }

    private static void leavesOut() {
        leftOutDue("W", 0);
        leftOutDue("Wf", 1);
        leftOutDue("Wv109", 0);
        leftOutDue("Wv110", 1);
        leftOutDue("Wv140v101", 1);
        leftOutDue("Wv040", 0);
        leftOutDue("Ww", 0);
        leftOutDue("Wwsww", 2);
        leftOutDue("Wsse", 0);
        leftOutDue("Wd11ss", 1);
        leftOutDue("Wesw", 1);
        leftOutDue("Wd10", 1);
        leftOutDue("Wd33d33", 1);
        leftOutDue("Wd30d40d31d41d32d42d33", 1);
        leftOutDue("Wd30d40d31d41d32d42d43", 1);
        // the rivers meet in the cell 4, and then only n and v are done
        leftOutDue("Wewewe", 0);
        leftOutDue("Wewewesewd77f", 5);
        leftOutDue("Wewewebb", 0);
        leftOutDue("Weweweb", 0);
        leftOutDue("Wewewev001v105n03s", 0);
        // head of 0 in (0, 0) behind a dam: no step, so b tells none
        leftOutDue("Wd01swsb", 0);
        leftOutDue("Wd01swss", 1);
        leftOutDue("Wd01swsd77", 1);
    }

    private static void makesAllNew() {
        RiverMeeting x = new RiverMeeting();
        for (int seed = 0; seed < 20; seed++) {
            x.game(seed);
            for (int i = 0; i < 5; i++) {
                x.step(1 + i % 2);
            }
        }
        checks.due("both have won", x.playerOf(0, 4) > 0 && x.playerOf(1, 4) > 0 ? 1 : 0, 1);
        x.game(6);
        x.dam(0, 1);
        x.step(0);
        x.step(2);
        x.step(0);
        checks.due("a flood", x.flood(), 1);
        x.game(5);
        x.set(0, 7);
        x.set(1, 9);
        x.step(0);
        x.step(0);
        x.step(0);
        x.dam(6, 2);
        x.step(2);
        x.step(1);
        x.dam(1, 2);
        x.save(0);
        x.save(1);
        Checks.write(x, "W");
        checks.due("load() of W", x.load(), 0);
        checks.same("load() as a new object", Checks.told(new RiverMeeting()), x);
        checks.throwsState("undo() after load()", x::undo);
        checks.throwsState("restore(0) after load()", () -> x.restore(0));
        checks.throwsState("restore(1) after load()", () -> x.restore(1));
        Checks.write(x, "Wsn03");
        x.load();
        checks.throwsState("undo() after load() of commands", x::undo);
        x.step(0);
        checks.due("undo() after an action", x.undo(), 0);
        checks.due("load() again", x.load(), 0);
        checks.due("games as behind one load", x.about(0), 2);
    }

    private static void refusesWhatIsNoGame() {
        RiverMeeting x = new RiverMeeting();
        x.step(0);
        x.save(1);
        x.set(1, 4);
        String before = Checks.told(x);
        checks.throwsState("load() of no text", x::load);
        Checks.write(x, "Wsx");
        checks.throwsState("load() of Wsx", x::load);
        Checks.write(x, "Wd1");
        checks.throwsState("load() of Wd1", x::load);
        checks.same("a load() that throws", before, x);
        checks.due("undo() then", x.undo(), 1);
        checks.due("restore(1) then", x.restore(1), 1);
        checks.due("the text stays", x.clearText(), 3);
    }
}
