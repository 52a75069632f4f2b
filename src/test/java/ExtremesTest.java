/**
 * How far numbers grow within 512 calls: ways that are dear, long or winding, and what counts in
 * all games. Hardly any game comes to such numbers; those with a seed here were searched for.
 */
public final class ExtremesTest {
    private static final Checks checks = new Checks("extremes");

    public static void main(String[] args) {
        waysThatCostMuch();
        waysThatOftenLeadWest();
        waysThatOftenLeadEast();
        waysOfManySteps();
        manyStepsToTheOtherRiver();
        manyStepsOut();
        manyStepsToTheLeastWishedCell();
        bestStepsThatCostMuch();
        muchPaidInAGame();
        muchPaidInAllGames();
        manyRefusals();
        manyFloods();
        checks.end();
    }

    /** Dams that last long, so that those of the moves stand to their end; 325 calls at most. */
    private static RiverMeeting looked(long seed, String moves) {
        String lasting = "v040" + moves;
        String when = "behind " + lasting + " with the seed " + seed;
        Seen.compare(checks, when, Games.ofSeed(seed, lasting));
        Seen.compareDams(checks, when, Games.ofSeed(seed, lasting));
        return Games.ofSeed(seed, lasting);
    }

    private static void cheapestDue(long seed, String moves, int p, int due) {
        RiverMeeting x = looked(seed, moves);
        String call = "(" + p + ", %d) behind " + moves + " with the seed " + seed;
        checks.due("cheapest" + String.format(call, 0), x.cheapest(p, 0), due);
        checks.due("cheapest" + String.format(call, 1), x.cheapest(p, 1), due);
    }

    /** The least costs of the player, however great they are. */
    private static void waysThatCostMuch() {
        cheapestDue(4475, "swswed56ewewed65d76d47d63", 1, 121);
        cheapestDue(123307657, "wessswd75d55swed66ewed46ewewd35we", 1, 134);
        cheapestDue(58505, "wed25sd15sd44sssesesesewewswwwwd05wd65wwwd35sw", 0, 110);
    }

    /** Again and again until nothing changes: west of a cell a way changes one round later. */
    private static void waysThatOftenLeadWest() {
        cheapestDue(300702, "sesd63d72sd52d47d32d42", 1, 38);
        cheapestDue(618577, "d72e", 1, 35);
        cheapestDue(929075, "eed72d17", 1, 29);
        cheapestDue(77325, "se", 1, 31);
        cheapestDue(25349, "eee", 1, 21);
    }

    private static void waysThatOftenLeadEast() {
        cheapestDue(593894, "wwd53d14d22d75d65", 0, 33);
        cheapestDue(309307, "d05sw", 0, 28);
    }

    private static void waysOfManySteps() {
        cheapestDue(163846, "d44sesd06wewd15wewew", 0, 40);
        cheapestDue(442792, "esesewewd07wd55wd05w", 0, 63);
    }

    private static void meetsInDue(long seed, String moves, int p, int due) {
        RiverMeeting x = looked(seed, moves);
        checks.due("meetsIn(" + p + ") behind " + moves, x.meetsIn(p), due);
    }

    private static void manyStepsToTheOtherRiver() {
        meetsInDue(0, "d33wd65d44d16d54wwswsd23swssswssse", 1, 17);
        meetsInDue(0, "wwd23sswswsd55sd44d66wswd74ssesd33", 1, 17);
    }

    /** A river is not shut in that comes to the row 7, or to the other river, by many steps. */
    private static void manyStepsOut() {
        RiverMeeting x = looked(0, "d45d36d27ed07d16w");
        checks.due("whyDam(5, 7), which leaves a winding way", x.whyDam(5, 7), 0);
        looked(0, "d33wd65d44d16d54wwswsd23swssswssse");
    }

    private static void manyStepsToTheLeastWishedCell() {
        RiverMeeting x = looked(234520, "wwd73wswsd33swssseeed23d53d43eeeeeesed63e");
        checks.due("leastWished() far away", x.leastWished(), 56);
    }

    private static void bestDue(long seed, String moves, int due) {
        RiverMeeting x = looked(seed, moves);
        checks.due("best() behind " + moves + " with the seed " + seed, x.best(), due);
    }

    /** Dear steps come before those from which there is no way to the sea, whatever they cost. */
    private static void bestStepsThatCostMuch() {
        bestDue(58505, "wed25sd15sd44sssesesesewewswwwwd05wd65wwwd35sw", 1);
        bestDue(90817, "swwd43swd65wsd54sd75swesseeed23eseeeesd34", 2);
        bestDue(88208, "wwd75wssd64d35swswsssd54seseeeed44d24eeeese", 2);
        bestDue(75793, "wed76d67sssd27d46wswswed56ewd37weweseee", 1);
        bestDue(4475, "swswed56ewewed65d76d47d63", 2);
    }

    /** What the cells of the river cost, with floods, and 9 times the last one for the meeting. */
    private static int paidOnTheWay(RiverMeeting x, long seed, int p, int floods) {
        int cells = x.playerOf(p, 0);
        int meeting = x.about(5);
        int sum = 5 * floods + 9 * Games.cost(seed, p, meeting);
        for (int k = 1; k < cells; k++) {
            int cell = x.course(p, k);
            sum += cell == meeting && k == cells - 1 ? 0 : Games.cost(seed, p, cell);
        }
        return sum;
    }

    /** More than 255 by one player, with the 41 cells that a river can have at most. */
    private static void muchPaidInAGame() {
        RiverMeeting second = Games.ofSeed(559, "v109" + Games.BEFORE_LAST_MEETING + "w");
        checks.due("cells of 1", second.playerOf(1, 0), 41);
        checks.due("the last cell of 1", second.course(1, 40), 57);
        checks.due("paid by 1", second.playerOf(1, 2), 310);
        checks.due("paid by 1, counted", second.playerOf(1, 2), paidOnTheWay(second, 559, 1, 0));
        checks.due("won by", second.about(6), 0);
        RiverMeeting first = Games.ofSeed(31, "v109" + Games.BEFORE_LAST_MEETING + "w");
        checks.due("paid by 0", first.playerOf(0, 2), 295);
        checks.due("won by", first.about(6), 1);
    }

    /** 80 games that the same player wins: what was paid and won so far, in all games. */
    private static void muchPaidInAllGames() {
        for (int p = 0; p < 2; p++) {
            int seed = seedWonBy(p);
            RiverMeeting x = new RiverMeeting();
            x.set(1, 9);
            for (int games = 1; games <= 80; games++) {
                x.game(seed);
                Games.play(x, Games.MET);
            }
            checks.due("games", x.about(0), 81);
            checks.due("games won by " + p, x.playerOf(p, 4), 80);
            checks.due("games won by the other one", x.playerOf(1 - p, 4), 0);
            int by0 = Games.costs(seed, 0, 2, 3) + 9 * Games.cost(seed, 0, 4);
            int by1 = Games.costs(seed, 1, 5, 4) + 9 * Games.cost(seed, 1, 4);
            checks.due("paid by 0 in all games", x.playerOf(0, 5), 80 * by0);
            checks.due("paid by 1 in all games", x.playerOf(1, 5), 80 * by1);
            checks.isTrue("more than 1000", 80 * (by0 + by1) > 1000);
        }
    }

    private static int seedWonBy(int p) {
        for (int seed = 0; seed < 100; seed++) {
            if (Games.ofSeed(seed, "v109" + Games.MET).about(6) == p) {
                return seed;
            }
        }
        throw new IllegalStateException("no seed makes the player " + p + " win");
    }

    private static void manyRefusals() {
        RiverMeeting steps = Games.played("we");
        for (int refused = 1; refused <= 500; refused++) {
            checks.due("step(1), the own river", steps.step(1), 3);
        }
        checks.due("refused steps", steps.about(7), 500);
        checks.due("turns", steps.about(3), 2);
        RiverMeeting dams = new RiverMeeting();
        for (int refused = 1; refused <= 500; refused++) {
            checks.due("dam(1, 0), a river", dams.dam(1, 0), 1);
        }
        checks.due("refused dams", dams.about(7), 500);
        checks.due("undo() of one", dams.undo(), 13);
        checks.due("refused dams then", dams.about(7), 499);
    }

    /** Six drawn games, of 64 floods each. */
    private static void manyFloods() {
        RiverMeeting x = Games.played(Games.DRAWN);
        for (int games = 2; games <= 6; games++) {
            x.game(0);
            Games.play(x, Games.DRAWN);
            checks.due("floods so far", x.about(8), 64 * games);
        }
        int by0 = Games.costs(0, 0, 9, 17, 25, 33, 41, 49, 57, 56);
        int by1 = Games.costs(0, 1, 14, 22, 30, 38, 46, 54, 62, 63);
        checks.due("paid by 0 in this game", x.playerOf(0, 2), by0 + 160);
        checks.due("paid by 0 in all games", x.playerOf(0, 5), 6 * (by0 + 160));
        checks.due("paid by 1 in all games", x.playerOf(1, 5), 6 * (by1 + 160));
        checks.due("games won by 0", x.playerOf(0, 4), 0);
        checks.due("games won by 1", x.playerOf(1, 4), 0);
    }
}
