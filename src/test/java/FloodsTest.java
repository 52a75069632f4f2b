/** TURNS as far as it tells of floods, and the promise 14. */
public final class FloodsTest {
    private static final Checks checks = new Checks("floods");

    public static void main(String[] args) {
        noFloodWhileAStepIsPossible();
        noFloodWhileTheRiversCanMeet();
        noFloodBehindAGame();
        floodsWithoutADam();
        washesDamsAway();
        washesNoOtherDamsAway();
        washesNothingRoundTheBorder();
        countsWhatItWashesAlone();
        costsFive();
        isATurnAndNoRefusal();
        countsFloodsOfAllGames();
        checks.end();
    }

    private static void noFlood(String moves, int south, int east, int west) {
        RiverMeeting x = Games.played(moves);
        checks.due("why() behind " + moves, 100 * x.why(0) + 10 * x.why(1) + x.why(2),
                100 * south + 10 * east + west);
        checks.throwsState("flood() behind " + moves, x::flood);
        checks.due("floods", x.about(8), 0);
        checks.due("turns", x.about(3), Games.played(moves).about(3));
    }

    /** IllegalStateException if the player can make a step: south, east or west alone, too. */
    private static void noFloodWhileAStepIsPossible() {
        noFlood("", 0, 0, 0);
        noFlood("s", 0, 0, 0);
        noFlood("we", 0, 3, 1);
        noFlood("wed02sss", 2, 0, 1);
        noFlood("d12sd21sss", 2, 2, 0);
        noFlood("wes", 0, 1, 3);
        noFlood("sd72sesss", 2, 1, 0);
        noFlood("sd62sd51sss", 2, 0, 2);
        noFlood(Games.ROW_7, 1, 0, 0);
        noFlood(Games.ROW_7 + "w", 1, 0, 0);
        noFlood(Games.ROW_7 + "ee", 1, 0, 3);
    }

    private static void noFloodWhileTheRiversCanMeet() {
        noFlood("wwswd02wd12wes", 2, 0, 3);
        noFlood("wwswewd22sd77sed76", 2, 0, 3);
    }

    /** IllegalStateException if the game is over, also of a player who could make no step. */
    private static void noFloodBehindAGame() {
        String[] over = {
            Games.MET, Games.DRAWN, Games.BEFORE_LAST_MEETING + "w", Games.BEFORE_LAST_STEP + "w",
            "ewewd77se"
        };
        for (String moves : over) {
            RiverMeeting x = Games.played(moves);
            int floods = x.about(8);
            checks.throwsState("flood() behind " + moves, x::flood);
            checks.due("floods behind " + moves, x.about(8), floods);
        }
    }

    /** A flood is possible if the player can make no step, also if no dam is the reason. */
    private static void floodsWithoutADam() {
        RiverMeeting x = Games.played(Games.CORNERS);
        checks.due("flood() of 0", x.flood(), 0);
        checks.due("flood() of 1", x.flood(), 0);
        checks.due("flood() of 0 again", x.flood(), 0);
        checks.due("floods", x.about(8), 3);
        RiverMeeting last = Games.played(Games.BEFORE_LAST_FLOOD);
        checks.due("flood() as the last turn", last.flood(), 0);
    }

    private static void washed(String moves, int... cells) {
        RiverMeeting x = Games.played(moves);
        int dams = x.about(4);
        for (int cell : cells) {
            checks.due("content before it", x.cellOf(cell % 8, cell / 8, 2), 4);
        }
        checks.due("flood() behind " + moves, x.flood(), cells.length);
        checks.due("dams behind it", x.about(4), dams - cells.length);
        for (int cell : cells) {
            checks.due("content behind it", x.cellOf(cell % 8, cell / 8, 2), 0);
            checks.due("the dam behind it", x.cellOf(cell % 8, cell / 8, 3), -1);
        }
    }

    /** The dams in the cells south, east and west of the head are gone, whoever built them. */
    private static void washesDamsAway() {
        washed(Games.STUCK, 8);
        washed("sd71ses", 15);
        washed("d77d01ws", 8);
        washed(Games.ROW_7 + "ed37", 59);
        washed(Games.ROW_7 + "d47ww", 60);
        washed("d02sd11swsss", 16, 9);
        washed("sd72sd61sesss", 23, 14);
        washed("s".repeat(12) + "d07d27ss", 56, 58);
        washed("d12sd21sd01sss", 17, 10, 8);
    }

    /** Those two cells away, and those beside the cells around the head, stand on. */
    private static void washesNoOtherDamsAway() {
        RiverMeeting x = Games.played("d12d02d21d22d01d13ss");
        checks.due("flood() of three dams among six", x.flood(), 3);
        checks.due("dams", x.about(4), 3);
        checks.due("south-west", x.cellOf(0, 2, 3), 8);
        checks.due("south-east", x.cellOf(2, 2, 3), 6);
        checks.due("two cells south", x.cellOf(1, 3, 3), 4);
        RiverMeeting y = Games.played("d12d20d21d22wssses");
        checks.due("the head of 0", y.playerOf(0, 1), 9);
        checks.due("flood() of two dams among four", y.flood(), 2);
        checks.due("north-east", y.cellOf(2, 0, 3), 10);
        checks.due("south-east", y.cellOf(2, 2, 3), 8);
        RiverMeeting other = Games.played("d01d77ws");
        checks.due("flood() of one dam among two", other.flood(), 1);
        checks.due("far away", other.cellOf(7, 7, 3), 4);
    }

    /** East of the column 7, west of the column 0 and south of the row 7 there is no cell. */
    private static void washesNothingRoundTheBorder() {
        RiverMeeting west = Games.played("d02sd11sd70swsss");
        checks.due("the head of 0", west.playerOf(0, 1), 8);
        checks.due("flood() at the west border", west.flood(), 2);
        checks.due("the east end of the row above", west.cellOf(7, 0, 3), 7);
        RiverMeeting east = Games.played("sd72sd61sd02sesss");
        checks.due("the head of 1", east.playerOf(1, 1), 15);
        checks.due("flood() at the east border", east.flood(), 2);
        checks.due("the west end of the row below", east.cellOf(0, 2, 3), 7);
        RiverMeeting sea = Games.played("v040d00d70" + Games.ROW_7 + "we");
        checks.due("flood() of 0 at the sea", sea.flood(), 0);
        checks.due("flood() of 1 at the sea", sea.flood(), 0);
        checks.due("the dam in (0, 0)", sea.cellOf(0, 0, 2), 4);
        checks.due("the dam in (7, 0)", sea.cellOf(7, 0, 2), 4);
    }

    /** Returns how many dams are washed away: not those that go at the end of its turn. */
    private static void countsWhatItWashesAlone() {
        RiverMeeting last = Games.played("v005" + Games.STUCK);
        checks.due("it has stood for 4 of 5 turns", last.cellOf(0, 1, 3), 4);
        checks.due("flood() of a dam that would go", last.flood(), 1);
        RiverMeeting other = Games.played("v005d77d01ws");
        checks.due("the other one has stood for 4 of 5 turns", other.cellOf(7, 7, 3), 4);
        checks.due("flood() of one dam, with which another goes", other.flood(), 1);
        checks.due("dams", other.about(4), 0);
        RiverMeeting none = Games.played("v004" + Games.STUCK);
        checks.throwsState("flood() where the dam went", none::flood);
        RiverMeeting sea = Games.played(Games.CORNERS + "fv001");
        checks.due("flood() of 1 without a dam", sea.flood(), 0);
    }

    private static void paid(String when, RiverMeeting x, int by0, int by1) {
        checks.due("paid by 0 " + when, x.playerOf(0, 2), by0);
        checks.due("paid by 1 " + when, x.playerOf(1, 2), by1);
        checks.due("paid by 0 in all games " + when, x.playerOf(0, 5), by0);
        checks.due("paid by 1 in all games " + when, x.playerOf(1, 5), by1);
    }

    /** The player pays 5, for any number of dams. */
    private static void costsFive() {
        String[] all = {
            Games.STUCK, "d02sd11swsss", "d12sd21sd01sss", Games.CORNERS, "v109" + Games.STUCK
        };
        for (String moves : all) {
            RiverMeeting x = Games.played(moves);
            int by0 = x.playerOf(0, 2);
            int by1 = x.playerOf(1, 2);
            paid("before a flood", x, by0, by1);
            x.flood();
            paid("behind a flood of 0", x, by0 + 5, by1);
        }
        RiverMeeting x = Games.played(Games.CORNERS + "f");
        int by0 = x.playerOf(0, 2);
        int by1 = x.playerOf(1, 2);
        x.flood();
        paid("behind a flood of 1", x, by0, by1 + 5);
        x.flood();
        x.flood();
        paid("behind a second flood of both", x, by0 + 5, by1 + 10);
    }

    private static void isATurnAndNoRefusal() {
        RiverMeeting x = Games.played("d01d77ws");
        checks.due("the turn is of", x.about(2), 0);
        x.flood();
        checks.due("the turn behind a flood is of", x.about(2), 1);
        checks.due("turns", x.about(3), 5);
        checks.due("floods", x.about(8), 1);
        checks.due("refused", x.about(7), 0);
        checks.due("the dam elsewhere has stood for", x.cellOf(7, 7, 3), 4);
        checks.due("dams built by 0", x.playerOf(0, 3), 1);
        checks.due("the head of 0", x.playerOf(0, 1), 0);
        checks.due("cells of 0", x.playerOf(0, 0), 2);
        x.step(0);
        checks.due("the way is free then", x.step(0), 0);
        checks.due("the head of 0 then", x.playerOf(0, 1), 8);
    }

    private static void countsFloodsOfAllGames() {
        RiverMeeting x = Games.played(Games.STUCK + "f");
        x.game(3);
        checks.due("floods with a new game", x.about(8), 1);
        Games.play(x, Games.STUCK + "f");
        checks.due("floods in two games", x.about(8), 2);
        checks.due("paid by 0 in this game", x.playerOf(0, 2), 5 + Games.cost(3, 0, 0));
        checks.due("paid by 0 in both games", x.playerOf(0, 5),
                10 + Games.cost(3, 0, 0) + Games.cost(0, 0, 0));
        RiverMeeting drawn = Games.played(Games.DRAWN);
        checks.due("floods of a whole game", drawn.about(8), 64);
    }
}
