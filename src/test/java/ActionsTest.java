/** Promises 11 to 16. */
public final class ActionsTest {
    private static final Checks checks = new Checks("actions");

    public static void main(String[] args) {
        games();
        steps();
        stepsThatMeet();
        lastTurn();
        dams();
        damsThatShutIn();
        damsThatGo();
        floods();
        sets();
        undoes();
        undoesAtMost14();
        throwsChangeNothing();
        checks.end();
    }

    private static void games() {
        RiverMeeting x = new RiverMeeting();
        long[] seeds = {0, 1, -1, 123456789012345L, Long.MIN_VALUE, Long.MAX_VALUE};
        for (int i = 0; i < seeds.length; i++) {
            x.step(0);
            x.dam(0, 7);
            checks.due("game(" + seeds[i] + ")", x.game(seeds[i]), i + 2);
            for (int cell = 0; cell < 64; cell++) {
                for (int p = 0; p < 2; p++) {
                    checks.due("cost", x.cellOf(cell % 8, cell / 8, p),
                            Checks.cost(seeds[i], p, cell));
                }
                int content = cell == 1 ? 1 : cell == 6 ? 2 : 0;
                checks.due("content", x.cellOf(cell % 8, cell / 8, 2), content);
            }
            checks.due("under way", x.about(1), 1);
            checks.due("turn of 0", x.about(2), 0);
            checks.due("turns", x.about(3), 0);
            checks.due("dams built by 1", x.playerOf(1, 3), 0);
            checks.due("nobody won", x.playerOf(0, 4) + x.playerOf(1, 4), 0);
        }
        RiverMeeting y = Checks.loaded("Wewewe");
        checks.due("game() of a game that is over", y.game(9), 2);
        checks.due("under way again", y.about(1), 1);
    }

    private static void steps() {
        RiverMeeting x = new RiverMeeting();
        int[] wrong = {-1, 3, Integer.MIN_VALUE, Integer.MAX_VALUE};
        for (int direction : wrong) {
            checks.throwsArgument("step(" + direction + ")", () -> x.step(direction));
        }
        checks.due("step(2) of 0", x.step(2), 0);
        checks.due("head of 0", x.playerOf(0, 1), 0);
        checks.due("paid by 0", x.playerOf(0, 2), Checks.cost(0, 0, 0));
        checks.due("paid by 1", x.playerOf(1, 2), 0);
        checks.due("step(1) of 1", x.step(1), 0);
        checks.due("head of 1", x.playerOf(1, 1), 7);
        checks.due("paid by 1", x.playerOf(1, 2), Checks.cost(0, 1, 7));
        checks.due("step(2) out of the field", x.step(2), 1);
        checks.due("step(1) into the own river", x.step(1), 3);
        checks.due("refused", x.about(7), 2);
        checks.due("no turn", x.about(3), 2);
        checks.due("still the turn of 0", x.about(2), 0);
        checks.due("nothing paid", x.playerOf(0, 5), Checks.cost(0, 0, 0));
        checks.due("step(0) of 0", x.step(0), 0);
        checks.due("head of 0 south", x.playerOf(0, 1), 8);
        checks.due("step(1) of 1 out of the field", x.step(1), 1);
        checks.due("step(2) of 1 into the own river", x.step(2), 3);
        RiverMeeting y = Checks.loaded("Wsd12");
        checks.due("step(0) into a dam", y.step(0), 2);
        RiverMeeting sea = Checks.loaded("Wssssssssssssss");
        checks.due("head of 0", sea.playerOf(0, 1), 57);
        checks.due("step(0) into the sea", sea.step(0), 1);
        checks.due("step(1) beside the sea", sea.step(1), 0);
    }

    private static void stepsThatMeet() {
        for (int seed = 0; seed < 30; seed++) {
            for (int factor = 1; factor <= 9; factor += 4) {
                meet(seed, factor);
            }
        }
    }

    private static void meet(int seed, int factor) {
        RiverMeeting x = new RiverMeeting();
        x.game(seed);
        x.set(1, factor);
        for (int i = 0; i < 4; i++) {
            checks.due("step", x.step(1 + i % 2), 0);
        }
        checks.due("the step that meets", x.step(1), 0);
        int[] paid = {
            Checks.cost(seed, 0, 2) + Checks.cost(seed, 0, 3) + factor * Checks.cost(seed, 0, 4),
            Checks.cost(seed, 1, 5) + Checks.cost(seed, 1, 4) + factor * Checks.cost(seed, 1, 4)
        };
        int winner = paid[0] < paid[1] ? 0 : paid[1] < paid[0] ? 1 : -1;
        checks.due("winner", x.about(6), winner);
        checks.due("turns", x.about(3), 5);
        for (int p = 0; p < 2; p++) {
            checks.due("paid", x.playerOf(p, 2), paid[p]);
            checks.due("paid in all games", x.playerOf(p, 5), paid[p]);
            checks.due("won", x.playerOf(p, 4), winner == p ? 1 : 0);
            checks.due("cells", x.playerOf(p, 0), p == 0 ? 4 : 3);
            checks.due("head", x.playerOf(p, 1), 4);
        }
        checks.throwsState("step(0)", () -> x.step(0));
        checks.throwsArgument("step(3)", () -> x.step(3));
        checks.throwsState("dam(3, 3)", () -> x.dam(3, 3));
        checks.throwsIndex("dam(8, 3)", () -> x.dam(8, 3));
        checks.throwsState("flood()", x::flood);
    }

    /** A meeting with the 80th turn is a meeting, and its turn counts for the dams. */
    private static void lastTurn() {
        RiverMeeting over = Checks.loaded("W" + "s".repeat(14) + "we" + "f".repeat(64));
        checks.due("over", over.about(1), 3);
        checks.throwsState("step(0)", () -> over.step(0));
        checks.throwsState("dam(3, 3)", () -> over.dam(3, 3));
        checks.throwsState("flood()", over::flood);
        checks.due("set() goes on", over.set(0, 3), 20);
        String south = "sssssssw" + "f".repeat(32);
        String winding = "swwwwseeeeeswwwwwseeeeeswwwwwseeeeswwww";
        StringBuilder text = new StringBuilder("W");
        for (int i = 0; i < winding.length(); i++) {
            text.append(south.charAt(i)).append(winding.charAt(i));
        }
        RiverMeeting x = Checks.loaded(text.append('f').toString());
        checks.due("79 turns", x.about(3), 79);
        checks.due("under way", x.about(1), 1);
        checks.due("the step that meets", x.step(2), 0);
        checks.due("80 turns", x.about(3), 80);
        checks.due("met with the 80th turn", x.about(1), 2);
        checks.due("met in", x.about(5), 57);
        checks.due("won as any game is", x.playerOf(0, 2) == x.playerOf(1, 2) ? -1
                : x.playerOf(0, 2) < x.playerOf(1, 2) ? 0 : 1, x.about(6));
        RiverMeeting y = Checks.loaded("Wd33wewew");
        checks.due("met", y.about(1), 2);
        checks.due("turns", y.about(3), 6);
        checks.due("the dam stands for the last turn, too", y.cellOf(3, 3, 3), 6);
    }

    private static void dams() {
        RiverMeeting x = new RiverMeeting();
        int[] wrong = {-1, 8, Integer.MIN_VALUE, Integer.MAX_VALUE};
        for (int at : wrong) {
            checks.throwsIndex("dam(" + at + ", 0)", () -> x.dam(at, 0));
            checks.throwsIndex("dam(0, " + at + ")", () -> x.dam(0, at));
        }
        checks.due("dam on the own river", x.dam(1, 0), 1);
        checks.due("dam on the other river", x.dam(6, 0), 1);
        checks.due("dam(3, 2)", x.dam(3, 2), 0);
        checks.due("dam on a dam", x.dam(3, 2), 1);
        checks.due("refused", x.about(7), 3);
        checks.due("dams built by 0", x.playerOf(0, 3), 1);
        checks.due("dams built by 1", x.playerOf(1, 3), 0);
        checks.due("it stands for", x.cellOf(3, 2, 3), 1);
        checks.due("content", x.cellOf(3, 2, 2), 4);
        checks.due("nothing is paid", x.playerOf(0, 2), 0);
        checks.due("dam(4, 2)", x.dam(4, 2), 0);
        checks.due("dam(3, 3)", x.dam(3, 3), 0);
        checks.due("dam(4, 3)", x.dam(4, 3), 0);
        checks.due("dam(3, 4)", x.dam(3, 4), 0);
        checks.due("dam(4, 4)", x.dam(4, 4), 0);
        checks.due("a fourth dam", x.dam(5, 5), 2);
        checks.due("on a dam before", x.dam(4, 4), 1);
        checks.due("dams", x.about(4), 6);
        x.game(1);
        checks.due("dams are built again", x.dam(5, 5), 0);
    }

    private static void damsThatShutIn() {
        // the river of 0 comes down to the row 6 beside the west border
        RiverMeeting x = Checks.loaded("Wwesssssssssss");
        checks.due("head of 0", x.playerOf(0, 1), 48);
        checks.due("turn of 1", x.about(2), 1);
        checks.due("a dam beside", x.dam(1, 6), 0);
        checks.due("the last way is not shut", x.dam(0, 7), 3);
        checks.due("refused", x.about(7), 1);
        checks.due("a step on that way", x.step(0), 0);
        // a river in the row 7 is not shut in, even where it has no step any more
        RiverMeeting low = Checks.loaded("W" + "s".repeat(14) + "we");
        checks.due("head of 0", low.playerOf(0, 1), 56);
        checks.due("head of 1", low.playerOf(1, 1), 63);
        checks.due("a dam then", low.dam(3, 3), 0);
        // one that is shut in already: 0 went behind its own dam
        RiverMeeting y = Checks.loaded("Wd01sw");
        checks.due("head of 0", y.playerOf(0, 1), 0);
        checks.due("no dam of 1 anywhere", y.dam(7, 7), 3);
        checks.due("nor of 0", y.step(0) * 10 + y.dam(4, 4), 3);
        checks.due("but first reason 1", y.dam(0, 1), 1);
        // a way to the other river is enough: 0 can come to (2, 1) alone
        RiverMeeting other = Checks.loaded("Wwwswd02wd12wd77se");
        checks.due("head of 0", other.playerOf(0, 1), 9);
        checks.due("head of 1", other.playerOf(1, 1), 10);
        checks.due("no way to the sea", other.cheapest(0, 0), -1);
        checks.due("a dam all the same", other.dam(7, 6), 0);
        // heads (3, 6) and (4, 6), side by side: each can come to the other one alone
        RiverMeeting both = Checks.loaded("Wv040d26d56d37d47ewewssssssssssss");
        checks.due("heads", 100 * both.playerOf(0, 1) + both.playerOf(1, 1), 5152);
        checks.due("a dam elsewhere", both.dam(0, 0), 0);
    }

    private static void damsThatGo() {
        RiverMeeting x = new RiverMeeting();
        x.set(0, 3);
        x.dam(3, 3);
        x.step(0);
        checks.due("stands for 2", x.cellOf(3, 3, 3), 2);
        x.dam(4, 4);
        checks.due("is gone", x.cellOf(3, 3, 3), -1);
        checks.due("nothing there", x.cellOf(3, 3, 2), 0);
        checks.due("the other one stands", x.cellOf(4, 4, 3), 1);
        x.set(0, 1);
        checks.due("stands still", x.cellOf(4, 4, 3), 1);
        checks.due("a dam for no longer than its turn", x.dam(3, 3), 0);
        checks.due("all are gone", x.about(4), 0);
        checks.due("built all the same", x.playerOf(1, 3), 1);
        RiverMeeting z = Checks.loaded("Wd00" + "s".repeat(14) + "wwwf");
        checks.due("19 turns", z.about(3), 19);
        checks.due("stands for 19", z.cellOf(0, 0, 3), 19);
        z.step(2);
        checks.due("gone with 20", z.cellOf(0, 0, 3), -1);
        RiverMeeting kept = Checks.loaded("Wv040d00" + "s".repeat(14) + "wwwfw");
        checks.due("stands for 20 with the setting 40", kept.cellOf(0, 0, 3), 20);
    }

    private static void floods() {
        RiverMeeting x = Checks.loaded("Wd01sw");
        checks.throwsState("flood() of 1, who can make a step", x::flood);
        x.step(0);
        checks.due("flood()", x.flood(), 1);
        checks.due("the dam is gone", x.cellOf(0, 1, 2), 0);
        checks.due("dams", x.about(4), 0);
        checks.due("paid", x.playerOf(0, 2), Checks.cost(0, 0, 0) + 5);
        checks.due("paid in all games", x.playerOf(0, 5), Checks.cost(0, 0, 0) + 5);
        checks.due("a turn", x.about(3), 5);
        checks.due("turn of 1", x.about(2), 1);
        checks.due("floods", x.about(8), 1);
        x.step(0);
        checks.due("the way is free", x.step(0), 0);
        checks.throwsState("flood() at first", () -> new RiverMeeting().flood());
        // 0 goes south into a cell with dams on all three sides
        RiverMeeting three = Checks.loaded("Wd77sed13sd33sd24ss");
        checks.due("dams", three.about(4), 4);
        checks.due("flood() of three dams", three.flood(), 3);
        checks.due("the dam elsewhere stays", three.cellOf(7, 7, 3), 11);
        checks.due("dams then", three.about(4), 1);
        RiverMeeting corner = Checks.loaded("W" + "s".repeat(14) + "we");
        checks.due("flood() of no dam", corner.flood(), 0);
        checks.due("paid all the same", corner.playerOf(0, 2), paidDown() + 5);
        checks.due("flood() of the other one", corner.flood(), 0);
    }

    private static int paidDown() {
        int paid = Checks.cost(0, 0, 56);
        for (int y = 1; y < 8; y++) {
            paid += Checks.cost(0, 0, 8 * y + 1);
        }
        return paid;
    }

    private static void sets() {
        RiverMeeting x = new RiverMeeting();
        checks.due("set(0, 40)", x.set(0, 40), 20);
        checks.due("set(0, 1)", x.set(0, 1), 40);
        checks.due("set(0, 1) again", x.set(0, 1), 1);
        checks.due("set(1, 9)", x.set(1, 9), 3);
        checks.due("set(1, 1)", x.set(1, 1), 9);
        checks.due("no turn", x.about(3), 0);
        int[][] wrong = {
            {0, 0}, {0, 41}, {1, 0}, {1, 10}, {2, 1}, {-1, 1}, {0, -1}, {1, -5},
            {Integer.MAX_VALUE, 1}, {Integer.MIN_VALUE, 1}, {0, Integer.MAX_VALUE}
        };
        for (int[] pair : wrong) {
            checks.throwsArgument("set(" + pair[0] + ", " + pair[1] + ")",
                    () -> x.set(pair[0], pair[1]));
        }
        checks.due("setting(0)", x.setting(0), 1);
        checks.due("setting(1)", x.setting(1), 1);
    }

    private static void undoes() {
        RiverMeeting x = new RiverMeeting();
        checks.throwsState("undo() at first", x::undo);
        String[] told = new String[9];
        told[0] = Checks.told(x);
        x.dam(0, 1);
        told[1] = Checks.told(x);
        x.step(0);
        told[2] = Checks.told(x);
        x.step(2);
        told[3] = Checks.told(x);
        x.dam(7, 7);
        told[4] = Checks.told(x);
        x.set(1, 7);
        told[5] = Checks.told(x);
        x.step(0);
        told[6] = Checks.told(x);
        x.flood();
        told[7] = Checks.told(x);
        x.game(17);
        told[8] = Checks.told(x);
        checks.due("refused", x.about(7), 1);
        for (int left = 7; left >= 0; left--) {
            checks.due("undo()", x.undo(), left);
            checks.same("undo() to " + left, told[left], x);
        }
        checks.throwsState("undo() of nothing more", x::undo);
        x.step(0);
        checks.due("undo() after undo()", x.undo(), 0);
        checks.same("undo()", told[0], x);
        // the text and the save slots are no part of the state
        x.set(1, 8);
        x.save(0);
        x.append('W');
        x.undo();
        checks.due("the text stays", x.clearText(), 1);
        x.restore(0);
        checks.due("the slot stays", x.setting(1), 8);
        RiverMeeting met = Checks.loaded("Wewew");
        String before = Checks.told(met);
        met.step(1);
        checks.due("met", met.about(1), 2);
        checks.due("undo() of a meeting", met.undo(), 0);
        checks.same("undo() of a meeting", before, met);
    }

    private static void undoesAtMost14() {
        RiverMeeting x = new RiverMeeting();
        for (int v = 1; v <= 33; v++) {
            x.set(0, v);
        }
        for (int left = 13; left >= 0; left--) {
            checks.due("undo()", x.undo(), left);
            checks.due("setting(0)", x.setting(0), 19 + left);
        }
        checks.throwsState("undo() of a fifteenth", x::undo);
        checks.due("setting(0) then", x.setting(0), 19);
        x.set(0, 19);
        checks.due("an action that makes nothing different", x.undo(), 0);
        x.dam(1, 0);
        checks.due("a refused dam is an action", x.undo(), 0);
        checks.due("refused", x.about(7), 0);
    }

    private static void throwsChangeNothing() {
        RiverMeeting x = new RiverMeeting();
        x.step(0);
        String before = Checks.told(x);
        checks.throwsArgument("step(3)", () -> x.step(3));
        checks.throwsIndex("dam(0, 8)", () -> x.dam(0, 8));
        checks.throwsState("flood()", x::flood);
        checks.throwsArgument("set(1, 10)", () -> x.set(1, 10));
        checks.same("a call that throws", before, x);
        checks.due("only the step is remembered", x.undo(), 0);
    }
}
