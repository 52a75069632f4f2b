/** The promises 19 to 22: cheapest, meetsIn, leastWished, best. */
public final class QuestionsTest {
    private static final Checks checks = new Checks("questions");

    private static final int[] WRONG = {-1, 2, 3, Integer.MIN_VALUE, Integer.MAX_VALUE};

    public static void main(String[] args) {
        playersAndWaysThereAre();
        allGamesOnManyFields();
        gamesOfBestSteps();
        noughtInTheRow7();
        aboveTheRow7();
        withoutAWay();
        stepsToTheOtherRiver();
        leastWishedBetween();
        leastWishedOfLikeOnes();
        leastWishedNowhere();
        leastWishedBehindAMeeting();
        bestOfLikeOnes();
        bestThatMeets();
        bestWithoutAWay();
        bestByTheDamsAsTheyAre();
        noBestStep();
        changeNothing();
        checks.end();
    }

    /** IndexOutOfBoundsException comes first, then IllegalArgumentException. */
    private static void playersAndWaysThereAre() {
        for (String moves : new String[] {"", Games.MET, Games.DRAWN, Games.ROW_7}) {
            RiverMeeting x = Games.played(moves);
            for (int wrong : WRONG) {
                checks.throwsIndex("cheapest(" + wrong + ", 0)", () -> x.cheapest(wrong, 0));
                checks.throwsIndex("cheapest(" + wrong + ", 1)", () -> x.cheapest(wrong, 1));
                checks.throwsIndex("cheapest(" + wrong + ", 2)", () -> x.cheapest(wrong, 2));
                checks.throwsIndex("cheapest(" + wrong + ", -1)", () -> x.cheapest(wrong, -1));
                checks.throwsArgument("cheapest(0, " + wrong + ")", () -> x.cheapest(0, wrong));
                checks.throwsArgument("cheapest(1, " + wrong + ")", () -> x.cheapest(1, wrong));
                checks.throwsIndex("meetsIn(" + wrong + ")", () -> x.meetsIn(wrong));
            }
        }
    }

    private static void allGamesOnManyFields() {
        for (String moves : Games.MANY) {
            for (int seed = 0; seed < 30; seed++) {
                Seen.compare(checks, "behind " + moves + " with the seed " + seed,
                        Games.ofSeed(seed, moves));
            }
        }
    }

    private static void gamesOfBestSteps() {
        for (int seed = 0; seed < 120; seed++) {
            RiverMeeting x = Games.ofSeed(seed, "v00" + (1 + seed % 9));
            for (int turns = 0; turns < seed % 24; turns++) {
                int best = x.best();
                if (best < 0) {
                    break;
                }
                if (turns % 4 == 1 && x.whyDam(seed % 8, turns % 8) == 0) {
                    x.dam(seed % 8, turns % 8);
                } else {
                    x.step(best);
                }
            }
            Seen.compare(checks, "behind best steps with the seed " + seed, x);
        }
    }

    /** 0 if the head is in that row (the same for both ways), also if it can make no step. */
    private static void noughtInTheRow7() {
        String[] games = {
            Games.ROW_7, Games.ROW_7 + "e", Games.CORNERS, Games.DRAWN, Games.ONE_BETWEEN, Games.ROW_7 + "ewew"
        };
        for (String moves : games) {
            RiverMeeting x = Games.played(moves);
            for (int p = 0; p < 2; p++) {
                checks.due("cheapest(" + p + ", 0) behind " + moves, x.cheapest(p, 0), 0);
                checks.due("cheapest(" + p + ", 1) behind " + moves, x.cheapest(p, 1), 0);
            }
        }
        RiverMeeting one = Games.played("s".repeat(13));
        checks.due("cheapest(0, 0) in the row 7", one.cheapest(0, 0), 0);
        checks.due("cheapest(1, 0) in the row 6", one.cheapest(1, 0), new Seen(one).cheapest(1));
    }

    /** The costs of the cells of a way without the head; a way may cost nothing. */
    private static void aboveTheRow7() {
        int nothing = 0;
        int sideways = 0;
        for (int seed = 0; seed < 60; seed++) {
            RiverMeeting x = Games.ofSeed(seed, "s".repeat(12));
            int south = Games.cost(seed, 0, 57);
            int due = Math.min(south, Games.costs(seed, 0, 48, 56));
            int east = 0;
            for (int column = 2; column < 6; column++) {
                east += Games.cost(seed, 0, 48 + column);
                due = Math.min(due, east + Games.cost(seed, 0, 56 + column));
            }
            checks.due("cheapest(0, 0) from the row 6", x.cheapest(0, 0), due);
            checks.due("cheapest(0, 1) from the row 6", x.cheapest(0, 1), due);
            nothing += due == 0 ? 1 : 0;
            sideways += due < south ? 1 : 0;
        }
        checks.seen("a way that costs nothing", nothing);
        checks.seen("a way that is cheaper than the straight one", sideways);
    }

    /** NONE if there is no way: over cells without dams and rivers, and not round a border. */
    private static void withoutAWay() {
        String[] ofFirst = {
            Games.STUCK, Games.SIDE_BY_SIDE, "wwswewd22sd77se", "d02sd11swss", "d12sd21sd01sss"
        };
        for (String moves : ofFirst) {
            RiverMeeting x = Games.played(moves);
            checks.due("cheapest(0, 0) behind " + moves, x.cheapest(0, 0), -1);
            checks.due("cheapest(0, 1) behind " + moves, x.cheapest(0, 1), -1);
            checks.isTrue("1 has a way", x.cheapest(1, 0) >= 0 && x.cheapest(1, 1) >= 0);
        }
        RiverMeeting x = Games.played("sd72sd61sess");
        checks.due("the head of 1", x.playerOf(1, 1), 15);
        checks.due("cheapest(1, 0) at the east border", x.cheapest(1, 0), -1);
        checks.due("cheapest(1, 1) at the east border", x.cheapest(1, 1), -1);
    }

    private static void meetsInDue(String moves, int of0, int of1) {
        RiverMeeting x = Games.played(moves);
        checks.due("meetsIn(0) behind " + moves, x.meetsIn(0), of0);
        checks.due("meetsIn(1) behind " + moves, x.meetsIn(1), of1);
    }

    /** The fewest steps; NONE if there is no way; 0 if they met. */
    private static void stepsToTheOtherRiver() {
        meetsInDue("", 5, 5);
        meetsInDue("e", 4, 4);
        meetsInDue("ewe", 2, 2);
        meetsInDue("ewew", 1, 1);
        meetsInDue(Games.MET, 0, 0);
        meetsInDue("ewewd77se", 0, 0);
        meetsInDue("s", -1, 5);
        meetsInDue("ss", 5, 5);
        meetsInDue("wsss", 6, -1);
        meetsInDue("d30", -1, -1);
        meetsInDue("d30s", 6, -1);
        meetsInDue("d01sw", -1, -1);
        meetsInDue("wsd77ss", 6, -1);
        meetsInDue("wsd31ss", 7, -1);
        meetsInDue("wsd31sd32sd33s", 10, -1);
        meetsInDue(Games.SIDE_BY_SIDE, 1, 1);
        meetsInDue("wwswewd22sd77se", 1, -1);
        meetsInDue(Games.ROW_7, 5, 5);
        meetsInDue(Games.ROW_7 + "d37", -1, -1);
        meetsInDue(Games.CORNERS, -1, -1);
        meetsInDue(Games.DRAWN, -1, -1);
        meetsInDue(Games.BEFORE_LAST_STEP + "w", -1, 2);
        meetsInDue(Games.ONE_BETWEEN, 2, 2);
        meetsInDue(Games.ONE_BETWEEN + "e", 1, 1);
    }

    /** The cell with the greatest cost for both players together, also if that is 0. */
    private static void leastWishedBetween() {
        int[] sums = new int[19];
        for (int seed = 0; seed < 700; seed++) {
            RiverMeeting x = Games.ofSeed(seed, Games.ONE_BETWEEN);
            checks.due("leastWished() of one cell", x.leastWished(), 58);
            sums[Games.cost(seed, 0, 58) + Games.cost(seed, 1, 58)]++;
        }
        checks.seen("a cell that costs nothing", sums[0]);
        checks.seen("a cell that costs 18", sums[18]);
        int[] chosen = new int[2];
        int like = 0;
        for (int seed = 0; seed < 100; seed++) {
            RiverMeeting x = Games.ofSeed(seed, Games.TWO_BETWEEN);
            int west = Games.cost(seed, 0, 58) + Games.cost(seed, 1, 58);
            int east = Games.cost(seed, 0, 59) + Games.cost(seed, 1, 59);
            checks.due("leastWished() of two cells", x.leastWished(), west >= east ? 58 : 59);
            chosen[west >= east ? 0 : 1]++;
            like += west == east ? 1 : 0;
        }
        checks.seen("the west one", chosen[0]);
        checks.seen("the east one", chosen[1]);
        checks.seen("two that cost the same", like);
    }

    /** Of several the lowest number. */
    private static void leastWishedOfLikeOnes() {
        int several = 0;
        for (int seed = 0; seed < 60; seed++) {
            RiverMeeting x = Games.ofSeed(seed, "");
            Seen seen = new Seen(x);
            several += seen.leastWishedCells() > 1 ? 1 : 0;
            checks.due("leastWished() with the seed " + seed, x.leastWished(), seen.leastWished());
        }
        checks.seen("several cells of the greatest cost", several);
    }

    /** NONE if there is none: to which both heads can come, each over free cells. */
    private static void leastWishedNowhere() {
        String[] games = {
            Games.CORNERS, Games.DRAWN, Games.ONE_BETWEEN + "e", Games.ONE_BETWEEN + "ww",
            "d01sw", Games.STUCK, Games.SIDE_BY_SIDE, Games.ROW_7 + "d27d37d47"
        };
        for (String moves : games) {
            checks.due("leastWished() behind " + moves, Games.played(moves).leastWished(), -1);
        }
        RiverMeeting dam = Games.played("swsw" + "s".repeat(10) + "d00sd70sd27");
        checks.due("the dam", dam.cellOf(2, 7, 2), 4);
        checks.due("leastWished() behind a dam", dam.leastWished(), -1);
    }

    /** Where the rivers met there are rivers, also if that cell would be the dearest one. */
    private static void leastWishedBehindAMeeting() {
        int dearest = 0;
        for (int seed = 0; seed < 1500; seed++) {
            int there = Games.cost(seed, 0, 4) + Games.cost(seed, 1, 4);
            if (there < 17) {
                continue;
            }
            RiverMeeting x = Games.ofSeed(seed, Games.MET);
            Seen seen = new Seen(x);
            int due = seen.leastWished();
            checks.due("leastWished() with the seed " + seed, x.leastWished(), due);
            int cost = x.cellOf(due % 8, due / 8, 0) + x.cellOf(due % 8, due / 8, 1);
            dearest += there >= cost ? 1 : 0;
        }
        checks.seen("a meeting in the dearest cell", dearest);
    }

    private static void bestOf(int seed, String moves, int[] like) {
        RiverMeeting x = Games.ofSeed(seed, moves);
        Seen seen = new Seen(x);
        int[] prices = seen.prices();
        int best = seen.best();
        checks.due("best() behind " + moves + " with the seed " + seed, x.best(), best);
        for (int direction = best + 1; best >= 0 && direction < 3; direction++) {
            like[3 * best + direction] += prices[direction] == prices[best] ? 1 : 0;
        }
        like[best < 0 ? 0 : 4 * best]++;
    }

    /** Of several the lowest. */
    private static void bestOfLikeOnes() {
        int[] like = new int[9];
        for (int seed = 0; seed < 300; seed++) {
            bestOf(seed, "", like);
            bestOf(seed, "s", like);
            bestOf(seed, "d11", like);
            bestOf(seed, "sd12", like);
        }
        for (int direction = 0; direction < 3; direction++) {
            checks.seen("the best step " + direction, like[4 * direction]);
        }
        checks.seen("0 and 1 are alike", like[1]);
        checks.seen("0 and 2 are alike", like[2]);
        checks.seen("1 and 2 are alike", like[5]);
    }

    /** One that meets the other river costs what the player pays for that, and nothing more. */
    private static void bestThatMeets() {
        int[] chosen = new int[3];
        int like = 0;
        int byThePlayer = 0;
        for (int seed = 0; seed < 60; seed++) {
            for (int factor = 1; factor <= 9; factor++) {
                RiverMeeting x = Games.ofSeed(seed, "v10" + factor + "ewew");
                int[] prices = new Seen(x).prices();
                int meeting = factor * Games.cost(seed, 0, 4);
                checks.due("what the meeting costs", prices[1], meeting);
                int best = x.best();
                checks.due("best() beside the other river", best, prices[0] <= meeting ? 0 : 1);
                chosen[best]++;
                like += prices[0] == meeting ? 1 : 0;
                byThePlayer += prices[0] <= factor * Games.cost(seed, 1, 4) != (best == 0) ? 1 : 0;
            }
        }
        checks.seen("south", chosen[0]);
        checks.seen("the meeting", chosen[1]);
        checks.seen("both cost the same", like);
        checks.seen("the cost of the other player would lead elsewhere", byThePlayer);
    }

    /** Those without a way to the sea come behind all others, and are alike. */
    private static void bestWithoutAWay() {
        int dear = 0;
        int cheap = 0;
        for (int seed = 0; seed < 40; seed++) {
            // 1 in (5, 1): south is a dam, east leads nowhere, west meets 0 in (4, 1)
            RiverMeeting x = Games.ofSeed(seed, "v109d07wd17sed72ed62ed52s");
            checks.due("the heads", 100 * x.playerOf(0, 1) + x.playerOf(1, 1), 1213);
            checks.due("no way to the sea", x.cheapest(1, 0), -1);
            checks.due("one that meets comes before one that leads nowhere", x.best(), 2);
            // 0 in (2, 6) over a row of dams: both ways lead nowhere
            RiverMeeting y = Games.ofSeed(seed, "ed27d07d47d17d57d37sssssssssssss");
            checks.due("the heads", 100 * y.playerOf(0, 1) + y.playerOf(1, 1), 5062);
            checks.due("no way to the sea", y.cheapest(0, 0), -1);
            checks.due("the lowest of steps that lead nowhere", y.best(), 1);
            dear += Games.cost(seed, 0, 51) > Games.cost(seed, 0, 49) ? 1 : 0;
            // 0 in (1, 1): south and west lead nowhere, east leads on
            RiverMeeting z = Games.ofSeed(seed, "d13d22d02sss");
            checks.due("the step that leads to the sea", z.best(), 1);
            cheap += Games.cost(seed, 0, 17) < Games.cost(seed, 0, 10) ? 1 : 0;
        }
        checks.seen("a dear step that leads nowhere, lower than a cheap one", dear);
        checks.seen("a cheap step that leads nowhere, lower than a dear one", cheap);
    }

    /** By the dams as they are now: also those that go at the end of the turn. */
    private static void bestByTheDamsAsTheyAre() {
        int differs = 0;
        for (int seed = 0; seed < 60; seed++) {
            RiverMeeting going = Games.ofSeed(seed, "v003d13d77");
            RiverMeeting without = Games.ofSeed(seed, "d77d70");
            checks.due("the dam goes at the end of the turn", going.cellOf(1, 3, 3), 2);
            int best = new Seen(going).best();
            checks.due("best() with the seed " + seed, going.best(), best);
            differs += without.best() != best ? 1 : 0;
        }
        checks.seen("another best step without the dam", differs);
    }

    /** NONE if there is none, or the game is over. */
    private static void noBestStep() {
        String[] games = {
            Games.STUCK, Games.CORNERS, Games.MET, Games.DRAWN, Games.BEFORE_LAST_MEETING + "w",
            Games.BEFORE_LAST_STEP + "w"
        };
        for (String moves : games) {
            checks.due("best() behind " + moves, Games.played(moves).best(), -1);
        }
        checks.due("best() of the last turn", Games.played(Games.BEFORE_LAST_STEP).best(), 2);
        checks.due("best() of a meeting alone", Games.played(Games.BEFORE_LAST_MEETING).best(), 2);
        checks.due("best() in the row 7", Games.played(Games.ROW_7 + "w").best() > 0 ? 1 : 0, 1);
    }

    private static RiverMeeting asked(RiverMeeting x) {
        for (int cell = 0; cell < 64; cell++) {
            x.whyDam(cell % 8, cell / 8);
        }
        for (int k = 0; k < 3; k++) {
            x.why(k);
            x.cheapest(k % 2, 0);
            x.cheapest(k % 2, 1);
            x.meetsIn(k % 2);
        }
        x.leastWished();
        x.best();
        return x;
    }

    /** These change nothing. */
    private static void changeNothing() {
        String[] games = {"", "v003d33sd44", Games.MET, Games.STUCK, Games.DRAWN, "n05ewew"};
        for (String moves : games) {
            checks.alike("asking behind " + moves, () -> asked(Games.played(moves)),
                    () -> Games.played(moves));
        }
    }
}
