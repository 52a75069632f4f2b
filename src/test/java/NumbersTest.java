/** The promises 6 to 9: about, playerOf, cellOf, course. */
public final class NumbersTest {
    private static final Checks checks = new Checks("numbers");

    private static final int[] FAR = {Integer.MIN_VALUE, Integer.MAX_VALUE};

    public static void main(String[] args) {
        aboutWhat();
        aboutGamesAndTurns();
        aboutDams();
        aboutRefusals();
        aboutFloods();
        aboutMeetings();
        playersThereAre();
        playerOfWhat();
        numbersOfBothPlayers();
        numbersOfThisGameAndOfAll();
        cellOfWhat();
        contentsOfCells();
        turnsOfDams();
        courses();
        placesThereAre();
        firstExceptionFirst();
        checks.end();
    }

    /** IllegalArgumentException if what is not 0 to 8, in any game. */
    private static void aboutWhat() {
        for (String moves : new String[] {"", "d33", Games.MET, Games.DRAWN}) {
            RiverMeeting x = Games.played(moves);
            checks.throwsArgument("about(-1)", () -> x.about(-1));
            checks.throwsArgument("about(9)", () -> x.about(9));
            for (int far : FAR) {
                checks.throwsArgument("about(" + far + ")", () -> x.about(far));
            }
            checks.due("about(0)", x.about(0), 1);
            checks.due("about(8)", x.about(8), moves.equals(Games.DRAWN) ? 64 : 0);
        }
    }

    private static void aboutDue(String moves, int... numbers) {
        RiverMeeting x = Games.played(moves);
        for (int what = 0; what < numbers.length; what++) {
            checks.due("about(" + what + ") behind " + moves, x.about(what), numbers[what]);
        }
    }

    private static void aboutGamesAndTurns() {
        aboutDue("", 1, 1, 0, 0, 0, -1, -1, 0, 0);
        aboutDue("s", 1, 1, 1, 1, 0, -1, -1, 0, 0);
        aboutDue("d33", 1, 1, 1, 1, 1, -1, -1, 0, 0);
        aboutDue("d33s", 1, 1, 0, 2, 1, -1, -1, 0, 0);
        aboutDue("sn00", 2, 1, 0, 0, 0, -1, -1, 0, 0);
        aboutDue("n00n00n00s", 4, 1, 1, 1, 0, -1, -1, 0, 0);
        aboutDue(Games.BEFORE_LAST_FLOOD, 1, 1, 1, 79, 0, -1, -1, 0, 63);
        aboutDue(Games.DRAWN, 1, 3, -1, 80, 0, -1, -1, 0, 64);
        aboutDue(Games.DRAWN + "n00", 2, 1, 0, 0, 0, -1, -1, 0, 64);
        aboutDue(Games.STUCK, 1, 1, 0, 4, 1, -1, -1, 0, 0);
        aboutDue(Games.STUCK + "f", 1, 1, 1, 5, 0, -1, -1, 0, 1);
        aboutDue(Games.MET, 1, 2, -1, 5, 0, 4);
    }

    /** 4: the dams, of both players, as they are now. */
    private static void aboutDams() {
        RiverMeeting x = new RiverMeeting();
        int[][] cells = {{0, 7}, {7, 7}, {3, 3}, {4, 4}, {0, 0}, {7, 0}};
        for (int k = 0; k < 6; k++) {
            checks.due("dams", x.about(4), k);
            checks.due("dam()", x.dam(cells[k][0], cells[k][1]), 0);
        }
        checks.due("dams", x.about(4), 6);
        checks.due("a dam that is refused", x.dam(5, 5), 2);
        checks.due("dams then", x.about(4), 6);
        x.game(0);
        checks.due("dams of a new game", x.about(4), 0);
    }

    /** 7: how often step() and dam() were refused so far, in all games. */
    private static void aboutRefusals() {
        RiverMeeting x = Games.played("we");
        checks.due("refused at first", x.about(7), 0);
        x.step(1);
        checks.due("behind a step that is refused", x.about(7), 1);
        x.step(2);
        checks.due("behind another one", x.about(7), 2);
        x.dam(1, 0);
        checks.due("behind a dam that is refused", x.about(7), 3);
        x.dam(0, 1);
        checks.due("behind another one", x.about(7), 4);
        x.why(1);
        x.whyDam(1, 0);
        x.runScript(2, 20013010L);
        x.simulate(5, 200);
        checks.throwsState("flood()", x::flood);
        checks.throwsArgument("step(3)", () -> x.step(3));
        checks.throwsIndex("dam(8, 8)", () -> x.dam(8, 8));
        checks.due("no other call is refused so", x.about(7), 4);
        x.dam(3, 3);
        x.dam(4, 4);
        checks.due("nor one that is made", x.about(7), 4);
        x.step(2);
        x.game(0);
        checks.due("in all games", x.about(7), 5);
        x.dam(6, 0);
        checks.due("in the new game, too", x.about(7), 6);
        Games.play(x, Games.MET);
        checks.throwsState("step(0) of a game that is over", () -> x.step(0));
        checks.throwsState("dam(0, 0) of a game that is over", () -> x.dam(0, 0));
        checks.due("an exception is no refusal", x.about(7), 6);
    }

    private static void aboutFloods() {
        RiverMeeting x = Games.played(Games.CORNERS);
        for (int floods = 0; floods < 5; floods++) {
            checks.due("floods", x.about(8), floods);
            x.flood();
        }
        x.game(0);
        checks.throwsState("flood()", x::flood);
        checks.due("floods in all games", x.about(8), 5);
    }

    /** 5: the cell where the rivers met; 6: who won; NONE if they did not, or nobody did. */
    private static void aboutMeetings() {
        int[] won = new int[2];
        for (int seed = 0; seed < 30; seed++) {
            RiverMeeting x = new RiverMeeting();
            x.game(seed);
            Games.play(x, Games.MET);
            checks.due("met in", x.about(5), 4);
            int winner = x.about(6);
            int difference = x.playerOf(0, 2) - x.playerOf(1, 2);
            checks.due("won", winner, difference == 0 ? -1 : difference < 0 ? 0 : 1);
            if (winner >= 0) {
                won[winner]++;
            }
            x.game(seed);
            checks.due("met in the new game", x.about(5), -1);
            checks.due("won in the new game", x.about(6), -1);
        }
        checks.seen("won by 0", won[0]);
        checks.seen("won by 1", won[1]);
    }

    /** IndexOutOfBoundsException if there is no such player. */
    private static void playersThereAre() {
        RiverMeeting x = new RiverMeeting();
        int[] wrong = {-1, 2, 3, FAR[0], FAR[1]};
        for (int p : wrong) {
            for (int what = -1; what <= 6; what++) {
                int number = what;
                checks.throwsIndex("playerOf(" + p + ", " + what + ")",
                        () -> x.playerOf(p, number));
            }
            checks.throwsIndex("course(" + p + ", 0)", () -> x.course(p, 0));
            checks.throwsIndex("course(" + p + ", 1)", () -> x.course(p, 1));
        }
    }

    /** IllegalArgumentException if what is not 0 to 5. */
    private static void playerOfWhat() {
        RiverMeeting x = new RiverMeeting();
        int[] wrong = {-1, 6, 7, FAR[0], FAR[1]};
        for (int what : wrong) {
            checks.throwsArgument("playerOf(0, " + what + ")", () -> x.playerOf(0, what));
            checks.throwsArgument("playerOf(1, " + what + ")", () -> x.playerOf(1, what));
        }
    }

    private static void playerDue(String moves, int p, int... numbers) {
        RiverMeeting x = Games.played(moves);
        for (int what = 0; what < numbers.length; what++) {
            checks.due("playerOf(" + p + ", " + what + ") behind " + moves, x.playerOf(p, what),
                    numbers[what]);
        }
    }

    private static void numbersOfBothPlayers() {
        playerDue("", 0, 1, 1, 0, 0, 0, 0);
        playerDue("", 1, 1, 6, 0, 0, 0, 0);
        int first = Games.costs(0, 0, 0, 8);
        int second = Games.costs(0, 1, 14);
        playerDue("wssd33", 0, 3, 8, first, 0, 0, first);
        playerDue("wssd33", 1, 2, 14, second, 1, 0, second);
        playerDue("d33wd34sd35", 0, 1, 1, 0, 3, 0, 0);
        playerDue("n09wssd33", 0, 3, 8, Games.costs(9, 0, 0, 8), 0, 0, Games.costs(9, 0, 0, 8));
    }

    /** 2: paid in this game; 3: built in this game; 4: won so far; 5: paid in all games. */
    private static void numbersOfThisGameAndOfAll() {
        String games = "n11sed33sn12d33es";
        int first = Games.cost(12, 0, 9);
        int second = Games.cost(12, 1, 7);
        playerDue(games, 0, 2, 9, first, 1, 0, first + Games.cost(11, 0, 9));
        playerDue(games, 1, 2, 7, second, 0, 0, second + Games.costs(11, 1, 7, 15));
        playerDue(games + "n13", 0, 1, 1, 0, 0, 0, first + Games.cost(11, 0, 9));
        int[] won = new int[2];
        RiverMeeting x = new RiverMeeting();
        for (int seed = 0; seed < 12; seed++) {
            x.game(seed);
            Games.play(x, Games.MET);
            if (x.about(6) >= 0) {
                won[x.about(6)]++;
            }
            x.game(seed);
            checks.due("games won by 0 so far", x.playerOf(0, 4), won[0]);
            checks.due("games won by 1 so far", x.playerOf(1, 4), won[1]);
        }
        checks.isTrue("both have won", won[0] > 0 && won[1] > 0);
    }

    /** IllegalArgumentException if what is not 0 to 3. */
    private static void cellOfWhat() {
        RiverMeeting x = Games.played("d33");
        int[] wrong = {-1, 4, 5, FAR[0], FAR[1]};
        for (int what : wrong) {
            checks.throwsArgument("cellOf(0, 0, " + what + ")", () -> x.cellOf(0, 0, what));
            checks.throwsArgument("cellOf(7, 7, " + what + ")", () -> x.cellOf(7, 7, what));
            checks.throwsArgument("cellOf(3, 3, " + what + ")", () -> x.cellOf(3, 3, what));
        }
        checks.due("cellOf(3, 3, 0)", x.cellOf(3, 3, 0), Games.cost(0, 0, 27));
        checks.due("cellOf(3, 3, 3)", x.cellOf(3, 3, 3), 1);
    }

    private static void contentDue(String moves, int... contents) {
        RiverMeeting x = Games.played(moves);
        for (int cell = 0; cell < 64; cell++) {
            int due = 0;
            for (int k = 0; k < contents.length; k += 2) {
                due = contents[k] == cell ? contents[k + 1] : due;
            }
            checks.due("the content of " + cell + " behind " + moves,
                    x.cellOf(cell % 8, cell / 8, 2), due);
        }
    }

    /** 0: nothing; 1 or 2: the river of the player 0 or 1; 3: both; 4: a dam. */
    private static void contentsOfCells() {
        contentDue("", 1, 1, 6, 2);
        contentDue("se", 1, 1, 9, 1, 6, 2, 7, 2);
        contentDue("d00d77", 0, 4, 1, 1, 6, 2, 63, 4);
        contentDue(Games.MET, 1, 1, 2, 1, 3, 1, 4, 3, 5, 2, 6, 2);
        contentDue("ewewd77se", 1, 1, 2, 1, 3, 1, 4, 3, 12, 2, 5, 2, 6, 2, 63, 4);
        contentDue(Games.MET + "n00", 1, 1, 6, 2);
        contentDue("v001d00d77", 1, 1, 6, 2);
    }

    /** 3: the turns for which the dam there has stood, NONE without one. */
    private static void turnsOfDams() {
        RiverMeeting x = Games.played("d00sd77s");
        checks.due("the first dam", x.cellOf(0, 0, 3), 4);
        checks.due("the second dam", x.cellOf(7, 7, 3), 2);
        checks.due("a river", x.cellOf(1, 0, 3), -1);
        checks.due("nothing", x.cellOf(1, 1, 3), -1);
        RiverMeeting met = Games.played(Games.MET);
        checks.due("both rivers", met.cellOf(4, 0, 3), -1);
        RiverMeeting gone = Games.played("v002d00s");
        checks.due("a dam that is gone", gone.cellOf(0, 0, 3), -1);
    }

    /** k: place, from 0 for the cell where it begins. */
    private static void courses() {
        RiverMeeting x = Games.played("sseessww");
        int[][] due = {{1, 9, 10, 18, 17}, {6, 14, 15, 23, 22}};
        for (int p = 0; p < 2; p++) {
            checks.due("cells of " + p, x.playerOf(p, 0), 5);
            for (int k = 0; k < 5; k++) {
                checks.due("course(" + p + ", " + k + ")", x.course(p, k), due[p][k]);
            }
            checks.due("the head of " + p, x.playerOf(p, 1), due[p][4]);
        }
        RiverMeeting met = Games.played(Games.MET);
        checks.due("the last cell of 0", met.course(0, 3), 4);
        checks.due("the last cell of 1", met.course(1, 2), 4);
    }

    /** IndexOutOfBoundsException if the river has not so many cells. */
    private static void placesThereAre() {
        for (String moves : new String[] {"", "s", "sseessww", Games.MET, Games.DRAWN, "ssn00"}) {
            RiverMeeting x = Games.played(moves);
            for (int p = 0; p < 2; p++) {
                int player = p;
                int length = x.playerOf(p, 0);
                checks.due("the last place", x.course(p, length - 1), x.playerOf(p, 1));
                for (int k : new int[] {-1, -2, length, length + 1, 63, 64, FAR[0], FAR[1]}) {
                    checks.throwsIndex("course(" + p + ", " + k + ") behind " + moves,
                            () -> x.course(player, k));
                }
            }
        }
    }

    /** If several exceptions apply to a call, the one that is named first is thrown. */
    private static void firstExceptionFirst() {
        RiverMeeting x = new RiverMeeting();
        checks.throwsIndex("playerOf(2, 6)", () -> x.playerOf(2, 6));
        checks.throwsIndex("playerOf(-1, -1)", () -> x.playerOf(-1, -1));
        checks.throwsIndex("cellOf(8, 0, 4)", () -> x.cellOf(8, 0, 4));
        checks.throwsIndex("cellOf(0, 8, -1)", () -> x.cellOf(0, 8, -1));
        checks.throwsIndex("cellOf(-1, -1, 4)", () -> x.cellOf(-1, -1, 4));
        checks.throwsIndex("course(2, 9)", () -> x.course(2, 9));
    }
}
