/** TURNS as far as it tells of turns and steps, and the promises 12 and 17. */
public final class StepsTest {
    private static final Checks checks = new Checks("steps");

    public static void main(String[] args) {
        directions();
        directionsThereAre();
        everyTurnIsOfTheOtherOneThen();
        aRefusedCallIsNoTurn();
        noSuchCellInTheWest();
        noSuchCellInTheEast();
        noSuchCellInTheSea();
        aDamIsThere();
        aDamIsThereNoMore();
        theOwnRiverIsThere();
        theOtherRiverIsNoReason();
        paysTheOwnCost();
        paysForEachCellOfAWay();
        whyBehindAGame();
        checks.end();
    }

    /** Checks what a step would answer, and that it answers it, for the player whose turn it is. */
    private static void due(RiverMeeting x, int direction, int reason) {
        int p = x.about(2);
        int head = x.playerOf(p, 1);
        int refused = x.about(7);
        String where = "(" + direction + ") of " + p + " in the cell " + head;
        checks.due("why" + where, x.why(direction), reason);
        checks.due("why" + where + " refuses nothing", x.about(7), refused);
        checks.due("step" + where, x.step(direction), reason);
        checks.due("refused by step" + where, x.about(7), refused + (reason == 0 ? 0 : 1));
        int to = head + (reason != 0 ? 0 : direction == 0 ? 8 : direction == 1 ? 1 : -1);
        checks.due("the head behind step" + where, x.playerOf(p, 1), to);
    }

    /** A step leads from the head to the cell south (0), east (1) or west (2) of it. */
    private static void directions() {
        for (int direction = 0; direction < 3; direction++) {
            RiverMeeting x = new RiverMeeting();
            due(x, direction, 0);
            due(x, direction, 0);
            checks.due("cells of 0", x.playerOf(0, 0), 2);
            checks.due("cells of 1", x.playerOf(1, 0), 2);
            checks.due("where 0 was", x.course(0, 0), 1);
            checks.due("the head is the latest cell", x.course(0, 1), x.playerOf(0, 1));
            checks.due("where 1 was", x.course(1, 0), 6);
            checks.due("content of the beginning", x.cellOf(1, 0, 2), 1);
        }
    }

    private static void directionsThereAre() {
        int[] wrong = {-1, 3, 4, Integer.MIN_VALUE, Integer.MAX_VALUE};
        for (String moves : new String[] {"", Games.STUCK, Games.MET, Games.DRAWN}) {
            RiverMeeting x = Games.played(moves);
            for (int direction : wrong) {
                checks.throwsArgument("step(" + direction + ")", () -> x.step(direction));
                checks.throwsArgument("why(" + direction + ")", () -> x.why(direction));
            }
        }
    }

    /** Then it is the turn of the other one; the turns become 1 more. */
    private static void everyTurnIsOfTheOtherOneThen() {
        RiverMeeting x = new RiverMeeting();
        checks.due("the first turn is of", x.about(2), 0);
        checks.due("turns before it", x.about(3), 0);
        x.step(0);
        checks.due("behind a step of 0 the turn is of", x.about(2), 1);
        checks.due("turns", x.about(3), 1);
        x.step(0);
        checks.due("behind a step of 1 the turn is of", x.about(2), 0);
        checks.due("turns", x.about(3), 2);
        x.dam(7, 7);
        checks.due("behind a dam of 0 the turn is of", x.about(2), 1);
        checks.due("turns", x.about(3), 3);
        x.dam(0, 7);
        checks.due("behind a dam of 1 the turn is of", x.about(2), 0);
        checks.due("turns", x.about(3), 4);
        RiverMeeting y = Games.played(Games.CORNERS);
        checks.due("turns", y.about(3), 16);
        y.flood();
        checks.due("behind a flood of 0 the turn is of", y.about(2), 1);
        checks.due("turns", y.about(3), 17);
        y.flood();
        checks.due("behind a flood of 1 the turn is of", y.about(2), 0);
        checks.due("turns", y.about(3), 18);
    }

    /** A turn is not one that is refused. */
    private static void aRefusedCallIsNoTurn() {
        RiverMeeting x = Games.played("wed33d44");
        checks.due("step(2), no such cell", x.step(2), 1);
        checks.due("step(1), the own river", x.step(1), 3);
        checks.due("dam(3, 3), a dam", x.dam(3, 3), 1);
        checks.due("dam(0, 1), shut in", x.dam(0, 1), 3);
        checks.due("refused", x.about(7), 4);
        checks.due("the turn is of", x.about(2), 0);
        checks.due("turns", x.about(3), 4);
        checks.due("the dam of 0 has stood for", x.cellOf(3, 3, 3), 2);
        checks.due("the dam of 1 has stood for", x.cellOf(4, 4, 3), 1);
        checks.due("dams built by 0", x.playerOf(0, 3), 1);
        checks.due("paid by 0", x.playerOf(0, 2), Games.cost(0, 0, 0));
        checks.due("cells of 0", x.playerOf(0, 0), 2);
        checks.due("dams", x.about(4), 2);
        x.step(0);
        checks.due("a refused dam of 1", x.dam(3, 3), 1);
        checks.due("a refused step of 1", x.step(2), 3);
        checks.due("the turn is of", x.about(2), 1);
        checks.due("refused in all", x.about(7), 6);
    }

    /** 1: there is no such cell: not the east end of the row above. */
    private static void noSuchCellInTheWest() {
        RiverMeeting x = new RiverMeeting();
        due(x, 2, 0);
        x.step(1);
        for (int row = 0; row < 7; row++) {
            due(x, 2, 1);
            due(x, 0, 0);
            x.step(0);
        }
        due(x, 2, 1);
        checks.due("the head of 0", x.playerOf(0, 1), 56);
    }

    /** 1: there is no such cell: not the west end of the row below. */
    private static void noSuchCellInTheEast() {
        RiverMeeting x = new RiverMeeting();
        x.step(2);
        due(x, 1, 0);
        for (int row = 0; row < 7; row++) {
            x.step(0);
            due(x, 1, 1);
            due(x, 0, 0);
        }
        x.step(1);
        due(x, 1, 1);
        checks.due("the head of 1", x.playerOf(1, 1), 63);
    }

    /** Behind the row 7 is the sea. */
    private static void noSuchCellInTheSea() {
        RiverMeeting x = Games.played("s".repeat(12));
        checks.due("the head of 0 in the row 6", x.playerOf(0, 1), 49);
        due(x, 0, 0);
        due(x, 0, 0);
        due(x, 0, 1);
        due(x, 1, 0);
        due(x, 0, 1);
        due(x, 2, 0);
        due(x, 0, 1);
        due(x, 1, 0);
    }

    /** 2: a dam is there: south, east and west, the own one and that of the other player. */
    private static void aDamIsThere() {
        RiverMeeting south = Games.played("d12sss");
        due(south, 0, 2);
        due(south, 1, 0);
        RiverMeeting east = Games.played("d21sss");
        due(east, 1, 2);
        due(east, 2, 0);
        RiverMeeting west = Games.played("d01sss");
        due(west, 2, 2);
        due(west, 0, 0);
        RiverMeeting all = Games.played("d01sd21sd12sss");
        due(all, 0, 2);
        due(all, 1, 2);
        due(all, 2, 2);
        RiverMeeting ofOther = Games.played("sd12");
        due(ofOther, 0, 2);
        due(ofOther, 1, 0);
        RiverMeeting ofSecond = Games.played("d62ss");
        due(ofSecond, 0, 2);
        due(ofSecond, 2, 0);
        RiverMeeting own = Games.played("sd61s");
        due(own, 0, 2);
        due(own, 1, 0);
    }

    private static void aDamIsThereNoMore() {
        RiverMeeting x = Games.played("v002sd12");
        due(x, 0, 2);
        due(x, 1, 0);
        due(x, 0, 0);
        due(x, 0, 0);
        checks.due("the head of 0", x.playerOf(0, 1), 18);
        RiverMeeting y = Games.played("v003sd12es");
        due(y, 0, 0);
        due(y, 0, 0);
        due(y, 2, 0);
    }

    /** 3: the river of the player is there. */
    private static void theOwnRiverIsThere() {
        RiverMeeting x = Games.played("ew");
        due(x, 2, 3);
        due(x, 1, 0);
        due(x, 1, 3);
        due(x, 0, 0);
        due(x, 2, 3);
        RiverMeeting down = Games.played("swwss");
        due(down, 1, 0);
        due(down, 1, 0);
        due(down, 2, 3);
        due(down, 1, 0);
        due(down, 2, 3);
    }

    private static void theOtherRiverIsNoReason() {
        RiverMeeting x = Games.played("ewew");
        due(x, 1, 0);
        checks.due("met", x.about(1), 2);
        RiverMeeting y = Games.played("ewewd77");
        due(y, 2, 0);
        checks.due("met", y.about(1), 2);
        RiverMeeting z = Games.played("esd00wd07wd17wew");
        due(z, 0, 0);
        checks.due("met from the north", z.about(1), 2);
    }

    /** The player pays the own cost of the cell; the cell where a river begins costs nothing. */
    private static void paysTheOwnCost() {
        int[] nought = new int[2];
        int[] nine = new int[2];
        for (int seed = 0; seed < 60; seed++) {
            for (int direction = 0; direction < 3; direction++) {
                RiverMeeting x = new RiverMeeting();
                x.game(seed);
                int move = direction == 0 ? 8 : direction == 1 ? 1 : -1;
                x.step(direction);
                int first = Games.cost(seed, 0, 1 + move);
                checks.due("paid by 0", x.playerOf(0, 2), first);
                checks.due("paid by 1 then", x.playerOf(1, 2), 0);
                x.step(direction);
                int second = Games.cost(seed, 1, 6 + move);
                checks.due("paid by 1", x.playerOf(1, 2), second);
                checks.due("paid by 0 then", x.playerOf(0, 2), first);
                checks.due("paid by 0 in all games", x.playerOf(0, 5), first);
                checks.due("paid by 1 in all games", x.playerOf(1, 5), second);
                nought[0] += first == 0 ? 1 : 0;
                nought[1] += second == 0 ? 1 : 0;
                nine[0] += first == 9 ? 1 : 0;
                nine[1] += second == 9 ? 1 : 0;
            }
        }
        for (int p = 0; p < 2; p++) {
            checks.seen("a step of " + p + " that costs 0", nought[p]);
            checks.seen("a step of " + p + " that costs 9", nine[p]);
        }
    }

    private static void paysForEachCellOfAWay() {
        RiverMeeting x = Games.played("n23ssswewssse");
        checks.due("paid by 0", x.playerOf(0, 2), Games.costs(23, 0, 9, 17, 18, 26, 34));
        checks.due("paid by 1", x.playerOf(1, 2), Games.costs(23, 1, 14, 13, 12, 20, 21));
        checks.due("cells of 0", x.playerOf(0, 0), 6);
        checks.due("cells of 1", x.playerOf(1, 0), 6);
    }

    /** NONE if the game is over. */
    private static void whyBehindAGame() {
        String[] over = {
            Games.MET, Games.DRAWN, Games.BEFORE_LAST_MEETING + "w", Games.BEFORE_LAST_STEP + "w"
        };
        for (String moves : over) {
            RiverMeeting x = Games.played(moves);
            for (int direction = 0; direction < 3; direction++) {
                int d = direction;
                checks.due("why(" + d + ") behind " + moves, x.why(d), -1);
                checks.throwsState("step(" + d + ") behind " + moves, () -> x.step(d));
            }
            checks.due("refused", x.about(7), 0);
            x.game(0);
            checks.due("why(0) in a new game", x.why(0), 0);
            checks.due("step(0) in a new game", x.step(0), 0);
        }
        RiverMeeting last = Games.played(Games.BEFORE_LAST_STEP);
        checks.due("why(2) before the last turn", last.why(2), 0);
        checks.due("why(0) before the last turn", last.why(0), 1);
        checks.due("why(1) before the last turn", last.why(1), 3);
    }
}
