/** Promises 1 and 6 to 10. */
public final class NumbersTest {
    private static final Checks checks = new Checks("numbers");

    public static void main(String[] args) {
        newObject();
        about();
        aboutWins();
        playerOf();
        cellOf();
        course();
        setting();
        wrongInputs();
        checks.end();
    }

    private static void newObject() {
        RiverMeeting x = new RiverMeeting();
        int[] due = {1, 1, 0, 0, 0, -1, -1, 0, 0};
        for (int what = 0; what < due.length; what++) {
            checks.due("about(" + what + ") at first", x.about(what), due[what]);
        }
        for (int p = 0; p < 2; p++) {
            int[] player = {1, p == 0 ? 1 : 6, 0, 0, 0, 0};
            for (int what = 0; what < player.length; what++) {
                checks.due("playerOf(" + p + ", " + what + ") at first",
                        x.playerOf(p, what), player[what]);
            }
            checks.due("course at first", x.course(p, 0), p == 0 ? 1 : 6);
        }
        for (int cell = 0; cell < 64; cell++) {
            int content = cell == 1 ? 1 : cell == 6 ? 2 : 0;
            checks.due("cost for 0", x.cellOf(cell % 8, cell / 8, 0), Checks.cost(0, 0, cell));
            checks.due("cost for 1", x.cellOf(cell % 8, cell / 8, 1), Checks.cost(0, 1, cell));
            checks.due("content", x.cellOf(cell % 8, cell / 8, 2), content);
            checks.due("dam", x.cellOf(cell % 8, cell / 8, 3), -1);
        }
        checks.due("setting(0)", x.setting(0), 20);
        checks.due("setting(1)", x.setting(1), 3);
        checks.throwsState("undo() at first", x::undo);
        checks.throwsState("restore(0) at first", () -> x.restore(0));
        checks.throwsState("restore(1) at first", () -> x.restore(1));
        checks.due("errorPosition() at first", x.errorPosition(), 0);
    }

    private static void about() {
        RiverMeeting x = new RiverMeeting();
        x.dam(3, 3);
        checks.due("whose turn", x.about(2), 1);
        checks.due("turns", x.about(3), 1);
        checks.due("dams", x.about(4), 1);
        x.dam(4, 4);
        checks.due("whose turn then", x.about(2), 0);
        checks.due("dams then", x.about(4), 2);
        x.dam(3, 3);
        x.step(0);
        x.step(0);
        x.step(2);
        x.step(1);
        x.step(1);
        checks.due("refused: a dam on a dam, a step into the own river", x.about(7), 2);
        x.game(4);
        checks.due("games", x.about(0), 2);
        checks.due("turns of the new game", x.about(3), 0);
        checks.due("dams of the new game", x.about(4), 0);
        checks.due("refused stays", x.about(7), 2);
    }

    private static void aboutWins() {
        RiverMeeting x = Checks.loaded("Wewewe");
        int paid0 = Checks.cost(0, 0, 2) + Checks.cost(0, 0, 3) + 3 * Checks.cost(0, 0, 4);
        int paid1 = Checks.cost(0, 1, 5) + Checks.cost(0, 1, 4) + 3 * Checks.cost(0, 1, 4);
        int winner = paid0 < paid1 ? 0 : paid1 < paid0 ? 1 : -1;
        checks.due("met", x.about(1), 2);
        checks.due("nobody's turn", x.about(2), -1);
        checks.due("turns", x.about(3), 5);
        checks.due("met in", x.about(5), 4);
        checks.due("winner", x.about(6), winner);
        checks.due("paid by 0", x.playerOf(0, 2), paid0);
        checks.due("paid by 1", x.playerOf(1, 2), paid1);
        for (int p = 0; p < 2; p++) {
            checks.due("won by " + p, x.playerOf(p, 4), winner == p ? 1 : 0);
        }
        x.game(2);
        checks.due("under way", x.about(1), 1);
        checks.due("turn of 0", x.about(2), 0);
        checks.due("not met", x.about(5), -1);
        checks.due("not won", x.about(6), -1);
        RiverMeeting y = Checks.loaded("Wssssssssssssssw");
        checks.due("turns", y.about(3), 15);
        Checks.write(y, "W" + "s".repeat(14) + "we" + "f".repeat(63));
        checks.due("all are made", y.load(), 0);
        checks.due("79 turns", y.about(3), 79);
        checks.due("under way", y.about(1), 1);
        checks.due("turn of 1", y.about(2), 1);
        checks.due("floods", y.about(8), 63);
        y.flood();
        checks.due("80 turns", y.about(3), 80);
        checks.due("over", y.about(1), 3);
        checks.due("nobody's turn", y.about(2), -1);
        checks.due("nobody won", y.about(6), -1);
        checks.due("wins of 0", y.playerOf(0, 4), 0);
        checks.due("wins of 1", y.playerOf(1, 4), 0);
        y.game(0);
        checks.due("floods in all games", y.about(8), 64);
    }

    private static void playerOf() {
        RiverMeeting x = new RiverMeeting();
        x.game(11);
        x.step(0);
        x.dam(0, 7);
        x.step(2);
        x.dam(1, 7);
        int paid = Checks.cost(11, 0, 9) + Checks.cost(11, 0, 8);
        checks.due("cells of 0", x.playerOf(0, 0), 3);
        checks.due("head of 0", x.playerOf(0, 1), 8);
        checks.due("paid by 0", x.playerOf(0, 2), paid);
        checks.due("dams of 0", x.playerOf(0, 3), 0);
        checks.due("cells of 1", x.playerOf(1, 0), 1);
        checks.due("dams of 1", x.playerOf(1, 3), 2);
        x.game(12);
        checks.due("paid by 0 in the new game", x.playerOf(0, 2), 0);
        checks.due("paid by 0 in all games", x.playerOf(0, 5), paid);
        checks.due("dams of 1 in the new game", x.playerOf(1, 3), 0);
        checks.due("head of 0 in the new game", x.playerOf(0, 1), 1);
        x.step(2);
        checks.due("paid by 0 in all games then", x.playerOf(0, 5),
                paid + Checks.cost(12, 0, 0));
    }

    private static void cellOf() {
        RiverMeeting x = Checks.loaded("Wd22esss");
        checks.due("the dam", x.cellOf(2, 2, 2), 4);
        checks.due("the dam stands", x.cellOf(2, 2, 3), 5);
        checks.due("river of 0", x.cellOf(1, 1, 2), 1);
        checks.due("nothing", x.cellOf(0, 0, 2), 0);
        checks.due("no dam", x.cellOf(0, 0, 3), -1);
        RiverMeeting y = Checks.loaded("Wewewe");
        checks.due("river of 0", y.cellOf(3, 0, 2), 1);
        checks.due("river of 1", y.cellOf(5, 0, 2), 2);
        checks.due("both", y.cellOf(4, 0, 2), 3);
    }

    private static void course() {
        RiverMeeting x = Checks.loaded("Wsseesw");
        int[][] due = {{1, 9, 10, 18}, {6, 14, 15}};
        x.step(0);
        due[1] = new int[] {6, 14, 15};
        checks.due("cells of 0", x.playerOf(0, 0), 4);
        for (int p = 0; p < 2; p++) {
            for (int k = 0; k < due[p].length; k++) {
                checks.due("course(" + p + ", " + k + ")", x.course(p, k), due[p][k]);
            }
            int player = p;
            int behind = x.playerOf(p, 0);
            checks.throwsIndex("course behind the head", () -> x.course(player, behind));
            checks.throwsIndex("course(-1)", () -> x.course(player, -1));
            checks.throwsIndex("course(64)", () -> x.course(player, 64));
            checks.throwsIndex("course(greatest)", () -> x.course(player, Integer.MAX_VALUE));
            checks.throwsIndex("course(least)", () -> x.course(player, Integer.MIN_VALUE));
        }
        x.game(0);
        checks.throwsIndex("course of an older game", () -> x.course(0, 1));
    }

    private static void setting() {
        RiverMeeting x = new RiverMeeting();
        x.set(0, 40);
        x.set(1, 9);
        checks.due("setting(0)", x.setting(0), 40);
        checks.due("setting(1)", x.setting(1), 9);
        x.game(3);
        checks.due("setting(0) in a new game", x.setting(0), 40);
        checks.due("setting(1) in a new game", x.setting(1), 9);
    }

    private static void wrongInputs() {
        RiverMeeting x = new RiverMeeting();
        int[] odd = {-1, Integer.MIN_VALUE, Integer.MAX_VALUE, 9};
        for (int what : odd) {
            checks.throwsArgument("about(" + what + ")", () -> x.about(what));
            checks.throwsArgument("setting(" + what + ")", () -> x.setting(what));
            checks.throwsArgument("playerOf(0, " + what + ")", () -> x.playerOf(0, what));
            checks.throwsArgument("cellOf(7, 7, " + what + ")", () -> x.cellOf(7, 7, what));
            checks.throwsIndex("playerOf(" + what + ", 0)", () -> x.playerOf(what, 0));
            checks.throwsIndex("playerOf(" + what + ", 6)", () -> x.playerOf(what, 6));
            checks.throwsIndex("course(" + what + ", 0)", () -> x.course(what, 0));
            checks.throwsIndex("cellOf(" + what + ", 0, 0)", () -> x.cellOf(what, 0, 0));
            checks.throwsIndex("cellOf(0, " + what + ", 4)", () -> x.cellOf(0, what, 4));
        }
        checks.throwsArgument("setting(2)", () -> x.setting(2));
        checks.throwsArgument("playerOf(1, 6)", () -> x.playerOf(1, 6));
        checks.throwsArgument("cellOf(0, 0, 4)", () -> x.cellOf(0, 0, 4));
        checks.throwsIndex("playerOf(2, 0)", () -> x.playerOf(2, 0));
        checks.throwsIndex("course(2, 0)", () -> x.course(2, 0));
        checks.throwsIndex("cellOf(8, 0, 0)", () -> x.cellOf(8, 0, 0));
        checks.throwsIndex("cellOf(0, 8, 0)", () -> x.cellOf(0, 8, 0));
        checks.throwsIndex("cellOf(-1, 1, 0)", () -> x.cellOf(-1, 1, 0));
    }
}
