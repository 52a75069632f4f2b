/** TURNS as far as it tells of dams, and the promises 13 and 18. */
public final class DamsTest {
    private static final Checks checks = new Checks("dams");

    /** The head of the player 0 is (0, 6), that of the player 1, whose turn it is, (7, 5). */
    private static final String LOW = "we" + "s".repeat(11);

    public static void main(String[] args) {
        buildsInEachCorner();
        buildsForNothing();
        aRiverIsThere();
        aDamIsThere();
        threeDamsInAGame();
        damsThatAreGoneCount();
        refusedDamsDoNotCount();
        firstReasonComesFirst();
        shutsInTheOwnRiver();
        shutsInTheOtherRiver();
        shutsOnlyWithTheLastWay();
        theCornersAreWays();
        overItsOwnRiverLeadsNoWay();
        northwardsLeadsNoWay();
        noWayLeadsRoundTheBorder();
        aRiverInTheRow7IsNotShutIn();
        theOtherRiverIsAWayOut();
        shutInAlready();
        shutInNoMore();
        eachCellInManyGames();
        whyDamBehindAGame();
        checks.end();
    }

    /** Checks what a dam would answer, and that it answers it, for the player whose turn it is. */
    private static void due(RiverMeeting x, int column, int row, int reason) {
        int p = x.about(2);
        int refused = x.about(7);
        int built = x.playerOf(p, 3);
        String where = "(" + column + ", " + row + ") of " + p;
        checks.due("whyDam" + where, x.whyDam(column, row), reason);
        checks.due("whyDam" + where + " refuses nothing", x.about(7), refused);
        checks.due("whyDam" + where + " builds nothing", x.playerOf(p, 3), built);
        checks.due("dam" + where, x.dam(column, row), reason);
        checks.due("refused by dam" + where, x.about(7), refused + (reason == 0 ? 0 : 1));
        checks.due("built by dam" + where, x.playerOf(p, 3), built + (reason == 0 ? 1 : 0));
    }

    private static void whyDue(String moves, int column, int row, int reason) {
        RiverMeeting x = Games.played(moves);
        checks.due("whyDam(" + column + ", " + row + ") behind " + moves, x.whyDam(column, row),
                reason);
    }

    private static void buildsInEachCorner() {
        int[][] corners = {{0, 0}, {7, 0}, {0, 7}, {7, 7}};
        for (int[] corner : corners) {
            RiverMeeting x = new RiverMeeting();
            due(x, corner[0], corner[1], 0);
            checks.due("content", x.cellOf(corner[0], corner[1], 2), 4);
            checks.due("it has stood for", x.cellOf(corner[0], corner[1], 3), 1);
            checks.due("dams", x.about(4), 1);
        }
    }

    private static void buildsForNothing() {
        RiverMeeting x = new RiverMeeting();
        due(x, 3, 3, 0);
        due(x, 4, 4, 0);
        for (int p = 0; p < 2; p++) {
            checks.due("paid by " + p, x.playerOf(p, 2), 0);
            checks.due("dams built by " + p, x.playerOf(p, 3), 1);
            checks.due("cells of " + p, x.playerOf(p, 0), 1);
        }
        checks.due("turns", x.about(3), 2);
        checks.due("the first one has stood for", x.cellOf(3, 3, 3), 2);
        checks.due("the second one has stood for", x.cellOf(4, 4, 3), 1);
    }

    /** 1: there is a river in the cell: a head, a cell before it, of both players. */
    private static void aRiverIsThere() {
        RiverMeeting x = Games.played("ssew");
        int[][] rivers = {{1, 0}, {1, 1}, {2, 1}, {6, 0}, {6, 1}, {5, 1}};
        for (int turn = 0; turn < 2; turn++) {
            for (int[] cell : rivers) {
                due(x, cell[0], cell[1], 1);
            }
            due(x, 3, 5 + turn, 0);
        }
    }

    /** 1: there is a dam in the cell, of either player. */
    private static void aDamIsThere() {
        RiverMeeting x = Games.played("d33d44");
        due(x, 3, 3, 1);
        due(x, 4, 4, 1);
        due(x, 3, 4, 0);
        due(x, 3, 3, 1);
        due(x, 4, 4, 1);
        due(x, 3, 4, 1);
        due(x, 4, 3, 0);
        RiverMeeting gone = Games.played("v002d33");
        due(gone, 3, 3, 1);
        due(gone, 4, 4, 0);
        due(gone, 3, 3, 0);
    }

    /** 2: the player built 3 dams in this game. */
    private static void threeDamsInAGame() {
        RiverMeeting x = Games.played("d33d44d34d43");
        due(x, 3, 5, 0);
        due(x, 4, 5, 0);
        due(x, 0, 7, 2);
        due(x, 7, 7, 2);
        checks.due("dams", x.about(4), 6);
        x.step(0);
        due(x, 0, 7, 2);
        x.step(0);
        due(x, 0, 7, 2);
        RiverMeeting one = Games.played("d33sd34sd35");
        due(one, 4, 4, 0);
        due(one, 4, 5, 2);
    }

    /** Also when those dams stand no more: they lasted long enough, or a flood washed them. */
    private static void damsThatAreGoneCount() {
        RiverMeeting x = Games.played("v001d33d33d33d33d33d33");
        checks.due("dams", x.about(4), 0);
        due(x, 3, 3, 2);
        x.step(0);
        due(x, 3, 3, 2);
        RiverMeeting y = Games.played("d01sd77sd76swsfs");
        checks.due("dams", y.about(4), 2);
        due(y, 5, 5, 2);
    }

    private static void refusedDamsDoNotCount() {
        RiverMeeting x = new RiverMeeting();
        for (int i = 0; i < 5; i++) {
            due(x, 1, 0, 1);
        }
        for (int i = 0; i < 3; i++) {
            due(x, 3, 3 + i, 0);
            due(x, 4, 3 + i, 0);
        }
        due(x, 5, 5, 2);
        checks.due("refused", x.about(7), 6);
    }

    /** A dam is not possible for the first of these reasons that is so. */
    private static void firstReasonComesFirst() {
        RiverMeeting three = Games.played("d33d44d34d43d35d45");
        due(three, 1, 0, 1);
        due(three, 3, 3, 1);
        due(three, 3, 6, 2);
        RiverMeeting shut = Games.played("d01sw");
        due(shut, 0, 1, 1);
        due(shut, 0, 0, 1);
        due(shut, 6, 1, 1);
        due(shut, 0, 2, 3);
        RiverMeeting both = Games.played("d01sd77sd76sws");
        due(both, 0, 1, 1);
        due(both, 5, 5, 2);
        RiverMeeting would = Games.played("d77sd76sd75swe");
        due(would, 0, 1, 2);
        due(would, 4, 4, 2);
    }

    private static void shutsInTheOwnRiver() {
        RiverMeeting x = Games.played("we");
        due(x, 0, 1, 3);
        due(x, 1, 1, 0);
        due(x, 7, 1, 3);
        due(x, 6, 1, 0);
        due(x, 0, 1, 3);
        due(x, 0, 2, 3);
        due(x, 2, 1, 0);
        due(x, 7, 1, 3);
        due(x, 7, 2, 3);
    }

    /** Each player's river is looked at. */
    private static void shutsInTheOtherRiver() {
        RiverMeeting x = Games.played("we");
        due(x, 7, 1, 3);
        x.dam(4, 4);
        due(x, 0, 1, 3);
        x.dam(3, 3);
        x.step(0);
        due(x, 0, 1, 1);
        due(x, 0, 2, 0);
        due(x, 7, 1, 3);
        due(x, 1, 1, 3);
    }

    private static void shutsOnlyWithTheLastWay() {
        RiverMeeting x = Games.played(LOW);
        checks.due("the head of 0", x.playerOf(0, 1), 48);
        checks.due("whyDam(0, 7) with a way left", x.whyDam(0, 7), 0);
        due(x, 1, 6, 0);
        due(x, 0, 7, 3);
        due(x, 1, 7, 0);
        due(x, 0, 7, 3);
        x.step(0);
        x.step(0);
        checks.due("whyDam() beside a river in the row 7", x.whyDam(2, 7), 0);
        RiverMeeting first = Games.played("d11");
        due(first, 0, 1, 0);
        due(first, 2, 0, 3);
        RiverMeeting along = Games.played("d01d11d21d31d41");
        due(along, 5, 0, 3);
        due(along, 2, 0, 3);
        due(along, 5, 1, 0);
    }

    /** (0, 0) and (7, 0) are cells as others are, whatever was asked before. */
    private static void theCornersAreWays() {
        RiverMeeting x = new RiverMeeting();
        checks.isTrue("a way to the sea", x.cheapest(0, 0) >= 0 && x.cheapest(1, 0) >= 0);
        due(x, 1, 1, 0);
        checks.due("whyDam(0, 0) with a way over (2, 0)", x.whyDam(0, 0), 0);
        checks.due("whyDam(2, 0) with a way over (0, 0)", x.whyDam(2, 0), 0);
        due(x, 0, 0, 0);
        due(x, 2, 0, 3);
        due(x, 6, 1, 0);
        checks.due("whyDam(5, 0) with a way over (7, 0)", x.whyDam(5, 0), 0);
        due(x, 7, 0, 0);
        checks.isTrue("a way to the sea", x.cheapest(0, 0) >= 0 && x.cheapest(1, 0) >= 0);
        due(x, 5, 0, 3);
        due(x, 2, 0, 3);
    }

    /** Over cells without its own river: back along its own row a river can not go. */
    private static void overItsOwnRiverLeadsNoWay() {
        RiverMeeting x = Games.played("ssed31");
        due(x, 2, 2, 3);
        due(x, 1, 2, 0);
        RiverMeeting y = Games.played("ssswd41");
        due(y, 5, 2, 3);
        due(y, 6, 2, 0);
    }

    /** By steps as told: north leads none of them. */
    private static void northwardsLeadsNoWay() {
        RiverMeeting x = Games.played(LOW + "d26d17");
        due(x, 0, 7, 3);
        due(x, 1, 6, 0);
        due(x, 0, 7, 3);
    }

    /** Neither east of the column 7 to the row below, nor west of the column 0 to the one above. */
    private static void noWayLeadsRoundTheBorder() {
        RiverMeeting x = Games.played("se" + "s".repeat(12) + "d66");
        checks.due("the head of 1", x.playerOf(1, 1), 55);
        due(x, 7, 7, 3);
        RiverMeeting y = Games.played(LOW + "wd16");
        checks.due("the head of 0", y.playerOf(0, 1), 48);
        checks.due("the cell over the border is free", y.cellOf(7, 6, 2), 0);
        due(y, 0, 7, 3);
    }

    /** Its head has come to the row 7, also where it can make no step any more. */
    private static void aRiverInTheRow7IsNotShutIn() {
        RiverMeeting x = Games.played(Games.CORNERS);
        due(x, 3, 3, 0);
        due(x, 4, 4, 0);
        RiverMeeting y = Games.played("s".repeat(14));
        due(y, 0, 7, 0);
        due(y, 5, 7, 0);
        due(y, 2, 7, 0);
        due(y, 7, 7, 0);
        checks.due("no step of 0 any more", y.why(0) * 100 + y.why(1) * 10 + y.why(2), 122);
    }

    /** Or to a cell of the other river: its head, and a cell before it. */
    private static void theOtherRiverIsAWayOut() {
        RiverMeeting x = Games.played(Games.SIDE_BY_SIDE);
        checks.due("0 has no way to the sea", x.cheapest(0, 0), -1);
        due(x, 7, 6, 0);
        RiverMeeting y = Games.played("wwswewd22sd77se");
        checks.due("the head of 0", y.playerOf(0, 1), 10);
        checks.due("the head of 1", y.playerOf(1, 1), 19);
        checks.due("0 has no way to the sea", y.cheapest(0, 0), -1);
        due(y, 7, 6, 0);
        due(y, 7, 5, 0);
        RiverMeeting both = Games.played("v040d26d56d37d47ewew" + "s".repeat(12));
        checks.due("the head of 0", both.playerOf(0, 1), 51);
        checks.due("the head of 1", both.playerOf(1, 1), 52);
        checks.due("no way of 0 to the sea", both.cheapest(0, 0), -1);
        checks.due("no way of 1 to the sea", both.cheapest(1, 0), -1);
        due(both, 0, 0, 0);
        due(both, 0, 1, 0);
    }

    /** One that is shut in already counts, too. */
    private static void shutInAlready() {
        RiverMeeting x = Games.played("d01sw");
        for (int cell = 0; cell < 64; cell++) {
            boolean there = cell <= 1 || cell == 6 || cell == 8 || cell == 14;
            checks.due("whyDam() of 1 of " + cell, x.whyDam(cell % 8, cell / 8), there ? 1 : 3);
        }
        x.step(0);
        due(x, 7, 7, 3);
        due(x, 0, 2, 3);
        RiverMeeting y = Games.played("sd71se");
        checks.due("the head of 1", y.playerOf(1, 1), 7);
        due(y, 0, 7, 3);
        y.step(0);
        due(y, 0, 7, 3);
    }

    private static void shutInNoMore() {
        RiverMeeting flooded = Games.played(Games.STUCK + "f");
        due(flooded, 7, 7, 0);
        RiverMeeting gone = Games.played("v004d01sw");
        due(gone, 7, 7, 3);
        gone.step(0);
        due(gone, 0, 1, 3);
        due(gone, 7, 7, 0);
    }

    /** Each reason, for each cell, told by other means than in the class. */
    private static void eachCellInManyGames() {
        for (String moves : Games.MANY) {
            RiverMeeting x = Games.played(moves);
            if (x.about(1) == 1) {
                Seen.compareDams(checks, "behind " + moves, x);
            }
        }
    }

    /** NONE if the game is over; no cell comes before that. */
    private static void whyDamBehindAGame() {
        String[] over = {Games.MET, Games.DRAWN, Games.BEFORE_LAST_STEP + "w"};
        for (String moves : over) {
            RiverMeeting x = Games.played(moves);
            checks.due("whyDam() of a free cell behind " + moves, x.whyDam(3, 3), -1);
            checks.due("whyDam() of a river behind " + moves, x.whyDam(1, 0), -1);
            checks.throwsState("dam() of a free cell behind " + moves, () -> x.dam(3, 3));
            checks.throwsState("dam() of a river behind " + moves, () -> x.dam(1, 0));
            checks.throwsIndex("whyDam(8, 0) behind " + moves, () -> x.whyDam(8, 0));
            checks.throwsIndex("dam(0, 8) behind " + moves, () -> x.dam(0, 8));
            checks.throwsIndex("dam(-1, 0) behind " + moves, () -> x.dam(-1, 0));
            checks.due("refused", x.about(7), 0);
        }
        whyDue(Games.BEFORE_LAST_FLOOD, 3, 3, 0);
        whyDue(Games.BEFORE_LAST_FLOOD, 0, 7, 1);
    }
}
