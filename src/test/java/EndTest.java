/** TURNS as far as it tells of meetings, of the end of a game and of who wins it. */
public final class EndTest {
    private static final Checks checks = new Checks("end");

    /** The player 1 meets the head of the player 0 in (3, 0). */
    private static final String MET_BY_1 = "ewewd77w";

    public static void main(String[] args) {
        meetsAtAHead();
        meetsBeforeAHead();
        meetsWhereARiverBegins();
        meetsFromTheNorth();
        meetsInTheLastCell();
        bothPayForTheMeeting();
        bothPayByTheSettingAsItIsThen();
        whoHasPaidLessWins();
        paymentsOfOtherGamesDoNotCount();
        floodsCountForWhoWins();
        gamesWonInAllGames();
        overWith80Turns();
        theLastTurnIsAFlood();
        theLastTurnIsADam();
        theLastTurnIsAStep();
        theLastTurnMeets();
        refusedCallsEndNoGame();
        theLastTurnCountsForDams();
        aGameThatIsOver();
        checks.end();
    }

    /** Plays all but the last move, looks, plays that one, and looks where the rivers met. */
    private static void met(String moves, int p, int cell, int cellsOf0, int cellsOf1) {
        int last = moves.length() - 1;
        RiverMeeting x = Games.played(moves.substring(0, last));
        int turns = x.about(3);
        int otherHead = x.playerOf(1 - p, 1);
        checks.due("the turn is of", x.about(2), p);
        checks.due("under way before " + moves, x.about(1), 1);
        checks.due("met nowhere yet", x.about(5), -1);
        checks.due("one step away", x.meetsIn(p), 1);
        Games.play(x, moves.substring(last));
        checks.due("met behind " + moves, x.about(1), 2);
        checks.due("nobody's turn", x.about(2), -1);
        checks.due("turns", x.about(3), turns + 1);
        checks.due("met in", x.about(5), cell);
        checks.due("content there", x.cellOf(cell % 8, cell / 8, 2), 3);
        checks.due("the head of " + p, x.playerOf(p, 1), cell);
        checks.due("the other head stays", x.playerOf(1 - p, 1), otherHead);
        checks.due("cells of 0", x.playerOf(0, 0), cellsOf0);
        checks.due("cells of 1", x.playerOf(1, 0), cellsOf1);
        checks.due("the last cell of " + p, x.course(p, x.playerOf(p, 0) - 1), cell);
    }

    private static void meetsAtAHead() {
        met(Games.MET, 0, 4, 4, 3);
        met(MET_BY_1, 1, 3, 3, 4);
    }

    private static void meetsBeforeAHead() {
        met("ewewd77se", 0, 4, 4, 4);
        met("wwswewd22sd77sed76e", 0, 11, 6, 6);
        met("ewewsw", 1, 3, 4, 4);
    }

    private static void meetsWhereARiverBegins() {
        met("esesesese", 0, 6, 6, 5);
        met("swswswswsw", 1, 1, 6, 6);
    }

    private static void meetsFromTheNorth() {
        met("esd00wd07wd17wews", 0, 11, 4, 6);
        met("swewed77es", 1, 12, 5, 4);
    }

    private static void meetsInTheLastCell() {
        met("sw ss se se ss ss ss es es es ed00 ed07 e", 0, 63, 14, 11);
    }

    private static void paid(String when, RiverMeeting x, int by0, int by1) {
        checks.due("paid by 0 " + when, x.playerOf(0, 2), by0);
        checks.due("paid by 1 " + when, x.playerOf(1, 2), by1);
        checks.due("paid by 0 in all games " + when, x.playerOf(0, 5), by0);
        checks.due("paid by 1 in all games " + when, x.playerOf(1, 5), by1);
    }

    private static RiverMeeting gameOf(int seed, int factor, String moves) {
        RiverMeeting x = new RiverMeeting();
        x.game(seed);
        x.set(1, factor);
        Games.play(x, moves);
        return x;
    }

    /** Nothing for the step, but both setting 1 times their own cost of that cell. */
    private static void bothPayForTheMeeting() {
        for (int seed = 0; seed < 25; seed++) {
            for (int factor = 1; factor <= 9; factor++) {
                String when = "with the seed " + seed + " and the setting " + factor;
                paid(when, gameOf(seed, factor, Games.MET),
                        Games.costs(seed, 0, 2, 3) + factor * Games.cost(seed, 0, 4),
                        Games.costs(seed, 1, 5, 4) + factor * Games.cost(seed, 1, 4));
                paid(when + ", met by 1", gameOf(seed, factor, MET_BY_1),
                        Games.costs(seed, 0, 2, 3) + factor * Games.cost(seed, 0, 3),
                        Games.costs(seed, 1, 5, 4) + factor * Games.cost(seed, 1, 3));
            }
        }
        paid("with the setting at first", Games.played(Games.MET),
                Games.costs(0, 0, 2, 3, 4, 4, 4), Games.costs(0, 1, 5, 4, 4, 4, 4));
    }

    private static void bothPayByTheSettingAsItIsThen() {
        RiverMeeting x = gameOf(5, 1, "ewew");
        x.set(1, 9);
        x.step(1);
        int by0 = Games.costs(5, 0, 2, 3) + 9 * Games.cost(5, 0, 4);
        int by1 = Games.costs(5, 1, 5, 4) + 9 * Games.cost(5, 1, 4);
        paid("with the setting just before", x, by0, by1);
        x.set(1, 2);
        paid("with another setting behind it", x, by0, by1);
    }

    /** Who has paid less in a game when the rivers meet wins it; with like payments it is drawn. */
    private static void whoHasPaidLessWins() {
        int drawn = 0;
        int[] byOne = new int[2];
        int[] byTheMeeting = new int[2];
        for (int seed = 0; seed < 600; seed++) {
            RiverMeeting x = gameOf(seed, 1 + seed % 9, "ewew");
            int before = x.playerOf(0, 2) - x.playerOf(1, 2);
            checks.due("nobody won before the meeting", x.about(6), -1);
            x.step(1);
            int behind = x.playerOf(0, 2) - x.playerOf(1, 2);
            int winner = behind == 0 ? -1 : behind < 0 ? 0 : 1;
            checks.due("met", x.about(1), 2);
            checks.due("won with the seed " + seed, x.about(6), winner);
            checks.due("games won by 0", x.playerOf(0, 4), winner == 0 ? 1 : 0);
            checks.due("games won by 1", x.playerOf(1, 4), winner == 1 ? 1 : 0);
            drawn += winner == -1 ? 1 : 0;
            if (winner >= 0) {
                byOne[winner] += Math.abs(behind) == 1 ? 1 : 0;
                byTheMeeting[winner] += (winner == 0 ? before : -before) > 0 ? 1 : 0;
            }
        }
        checks.seen("a game drawn with like payments", drawn);
        for (int p = 0; p < 2; p++) {
            checks.seen("won by 1 by " + p, byOne[p]);
            checks.seen("won by the meeting by " + p, byTheMeeting[p]);
        }
    }

    /** Who has paid less in a game wins it, not who has paid less in all games. */
    private static void paymentsOfOtherGamesDoNotCount() {
        int drawn = 0;
        int[] otherwise = new int[2];
        for (int seed = 0; seed < 300; seed++) {
            RiverMeeting x = gameOf(1 + seed % 5, 3, Games.MET);
            x.game(seed);
            Games.play(x, Games.MET);
            int difference = x.playerOf(0, 2) - x.playerOf(1, 2);
            int inAll = x.playerOf(0, 5) - x.playerOf(1, 5);
            int winner = difference == 0 ? -1 : difference < 0 ? 0 : 1;
            checks.due("won with the seed " + seed, x.about(6), winner);
            drawn += winner == -1 && inAll != 0 ? 1 : 0;
            if (winner >= 0) {
                otherwise[winner] += (winner == 0 ? inAll : -inAll) > 0 ? 1 : 0;
            }
        }
        checks.seen("drawn, with unlike payments in all games", drawn);
        checks.seen("won by 0, who paid more in all games", otherwise[0]);
        checks.seen("won by 1, who paid more in all games", otherwise[1]);
    }

    /** What a flood costs is paid in the game, too. */
    private static void floodsCountForWhoWins() {
        int byTheFlood = 0;
        for (int seed = 0; seed < 100; seed++) {
            RiverMeeting x = gameOf(seed, 1, "d01swwfwswewe");
            int by0 = 5 + Games.costs(seed, 0, 0, 8, 9, 10);
            int by1 = Games.costs(seed, 1, 14, 13, 12, 11, 10, 10);
            checks.due("met in", x.about(5), 10);
            paid("with a flood", x, by0, by1);
            checks.due("won", x.about(6), by0 == by1 ? -1 : by0 < by1 ? 0 : 1);
            byTheFlood += by0 > by1 && by0 - 5 < by1 ? 1 : 0;
        }
        checks.seen("lost by a flood", byTheFlood);
    }

    private static void gamesWonInAllGames() {
        RiverMeeting x = new RiverMeeting();
        int[] won = new int[2];
        int[] paid = new int[2];
        for (int seed = 1; seed <= 25; seed++) {
            x.game(seed);
            Games.play(x, Games.MET);
            int winner = x.about(6);
            if (winner >= 0) {
                won[winner]++;
            }
            for (int p = 0; p < 2; p++) {
                paid[p] += x.playerOf(p, 2);
                checks.due("games won by " + p + " so far", x.playerOf(p, 4), won[p]);
                checks.due("paid by " + p + " so far", x.playerOf(p, 5), paid[p]);
            }
        }
        checks.isTrue("both have won twice", won[0] > 1 && won[1] > 1);
    }

    private static void isDrawn(String moves, RiverMeeting x) {
        checks.due("over without a meeting behind " + moves, x.about(1), 3);
        checks.due("nobody's turn", x.about(2), -1);
        checks.due("turns", x.about(3), 80);
        checks.due("met nowhere", x.about(5), -1);
        checks.due("nobody won", x.about(6), -1);
        checks.due("games won by 0", x.playerOf(0, 4), 0);
        checks.due("games won by 1", x.playerOf(1, 4), 0);
    }

    private static void isUnderWay(String moves, RiverMeeting x) {
        checks.due("under way behind " + moves, x.about(1), 1);
        checks.due("the turn is of", x.about(2), 1);
        checks.due("turns", x.about(3), 79);
        checks.due("nobody won yet", x.about(6), -1);
    }

    /** A game is over, too, when 80 turns were made: not with 79. */
    private static void overWith80Turns() {
        RiverMeeting x = Games.played(Games.CORNERS);
        for (int turns = 16; turns < 80; turns++) {
            checks.due("turns", x.about(3), turns);
            checks.due("under way with " + turns + " turns", x.about(1), 1);
            checks.due("the turn is of", x.about(2), turns % 2);
            x.flood();
        }
        isDrawn("floods", x);
    }

    /** It is drawn, whoever has paid less. */
    private static void theLastTurnIsAFlood() {
        int[] less = new int[2];
        for (int seed = 0; seed < 20; seed++) {
            String moves = "n" + seed / 10 + seed % 10 + Games.BEFORE_LAST_FLOOD;
            RiverMeeting x = Games.played(moves);
            isUnderWay(moves, x);
            x.flood();
            isDrawn(moves, x);
            less[0] += x.playerOf(0, 2) < x.playerOf(1, 2) ? 1 : 0;
            less[1] += x.playerOf(1, 2) < x.playerOf(0, 2) ? 1 : 0;
        }
        checks.seen("0 has paid less", less[0]);
        checks.seen("1 has paid less", less[1]);
    }

    private static void theLastTurnIsADam() {
        RiverMeeting x = Games.played(Games.BEFORE_LAST_FLOOD);
        checks.due("a dam as the last turn", x.dam(3, 3), 0);
        isDrawn("a dam", x);
        checks.due("the dam stands for", x.cellOf(3, 3, 3), 1);
        checks.due("dams built by 1", x.playerOf(1, 3), 1);
    }

    private static void theLastTurnIsAStep() {
        RiverMeeting x = Games.played(Games.BEFORE_LAST_STEP);
        isUnderWay("79 turns", x);
        int paid = x.playerOf(1, 2);
        checks.due("a step as the last turn", x.step(2), 0);
        isDrawn("a step", x);
        checks.due("the head of 1", x.playerOf(1, 1), 59);
        checks.due("it is paid for", x.playerOf(1, 2), paid + Games.cost(0, 1, 59));
    }

    private static void theLastTurnMeets() {
        RiverMeeting x = Games.played(Games.BEFORE_LAST_MEETING);
        isUnderWay("79 turns", x);
        checks.due("a step as the last turn", x.step(2), 0);
        checks.due("met with the turn 80", x.about(1), 2);
        checks.due("turns", x.about(3), 80);
        checks.due("met in", x.about(5), 57);
        checks.due("nobody's turn", x.about(2), -1);
        int winner = x.playerOf(0, 2) < x.playerOf(1, 2) ? 0 : 1;
        checks.isTrue("one has paid less", x.playerOf(0, 2) != x.playerOf(1, 2));
        checks.due("won", x.about(6), winner);
        checks.due("games won", x.playerOf(winner, 4), 1);
    }

    private static void refusedCallsEndNoGame() {
        RiverMeeting x = Games.played(Games.BEFORE_LAST_STEP);
        checks.due("a step that is refused", x.step(0), 1);
        checks.due("a dam that is refused", x.dam(1, 0), 1);
        isUnderWay("refused calls", x);
    }

    /** Also at the end of the last turn of a game each dam has stood for 1 turn more. */
    private static void theLastTurnCountsForDams() {
        RiverMeeting met = Games.played("d33wewew");
        checks.due("met", met.about(1), 2);
        checks.due("stands for", met.cellOf(3, 3, 3), 6);
        RiverMeeting stays = Games.played("v007d33wewew");
        checks.due("stands for 6 of 7", stays.cellOf(3, 3, 3), 6);
        RiverMeeting goes = Games.played("v006d33wewe");
        checks.due("stands for 5 of 6", goes.cellOf(3, 3, 3), 5);
        goes.step(2);
        checks.due("met", goes.about(1), 2);
        checks.due("gone with the last turn", goes.cellOf(3, 3, 3), -1);
        checks.due("dams", goes.about(4), 0);
        RiverMeeting drawn = Games.played(Games.CORNERS + "f".repeat(44) + "d33" + "f".repeat(18));
        checks.due("stands for 19 of 20", drawn.cellOf(3, 3, 3), 19);
        drawn.flood();
        checks.due("over", drawn.about(1), 3);
        checks.due("gone with the last turn", drawn.cellOf(3, 3, 3), -1);
        RiverMeeting later = Games.played(Games.CORNERS + "f".repeat(45) + "d33" + "f".repeat(18));
        checks.due("over", later.about(1), 3);
        checks.due("stands for 19", later.cellOf(3, 3, 3), 19);
        RiverMeeting once = Games.played("v001" + Games.BEFORE_LAST_FLOOD + "d33");
        checks.due("over", once.about(1), 3);
        checks.due("gone with its own turn", once.about(4), 0);
    }

    private static void aGameThatIsOver() {
        String[] over = {
            Games.MET, MET_BY_1, Games.DRAWN, Games.BEFORE_LAST_MEETING + "w",
            Games.BEFORE_LAST_STEP + "w"
        };
        for (String moves : over) {
            RiverMeeting x = Games.played(moves);
            int turns = x.about(3);
            for (int direction = 0; direction < 3; direction++) {
                int d = direction;
                checks.throwsState("step(" + d + ") behind " + moves, () -> x.step(d));
            }
            checks.throwsState("dam(3, 3) behind " + moves, () -> x.dam(3, 3));
            checks.throwsState("flood() behind " + moves, x::flood);
            checks.due("turns behind " + moves, x.about(3), turns);
            checks.due("best() behind " + moves, x.best(), -1);
            checks.due("set() behind " + moves, x.set(0, 5), 20);
            checks.due("save() behind " + moves, x.save(0), turns);
            checks.due("game() behind " + moves, x.game(0), 2);
            checks.due("under way behind " + moves, x.about(1), 1);
            checks.due("restore() behind " + moves, x.restore(0), turns);
            checks.isTrue("over behind " + moves, x.about(1) > 1);
        }
    }
}
