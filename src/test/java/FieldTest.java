/** THE FIELD, and the promises 1 and 11. */
public final class FieldTest {
    private static final Checks checks = new Checks("field");

    private static final int[] WRONG = {-1, 8, Integer.MIN_VALUE, Integer.MAX_VALUE};

    private static final long[] SEEDS = {
        0, 1, -1, 2, 99, 1L << 31, -(1L << 31), 1L << 32, (1L << 33) - 1, 1L << 33, 1L << 62,
        6364136223846793005L, 1442695040888963407L, -1442695040888963407L,
        Long.MAX_VALUE, Long.MAX_VALUE - 1, Long.MIN_VALUE, Long.MIN_VALUE + 1
    };

    public static void main(String[] args) {
        newObject();
        nothingIsKeptInANewObject();
        columnsAndRows();
        numbersOfCells();
        costsOfSeeds();
        costsFromNoughtToNine();
        countsGames();
        beginsAnew();
        turnsBeginAnew();
        nobodyWinsAGameThatIsLeft();
        staysOverGames();
        checks.end();
    }

    /** Promise 1: a field as laid with the seed 0; its game is under way, and the first one. */
    private static void newObject() {
        RiverMeeting x = new RiverMeeting();
        int[] numbers = {1, 1, 0, 0, 0, -1, -1, 0, 0};
        for (int what = 0; what < numbers.length; what++) {
            checks.due("about(" + what + ") at first", x.about(what), numbers[what]);
        }
        for (int p = 0; p < 2; p++) {
            int[] ofPlayer = {1, p == 0 ? 1 : 6, 0, 0, 0, 0};
            for (int what = 0; what < ofPlayer.length; what++) {
                checks.due("playerOf(" + p + ", " + what + ") at first", x.playerOf(p, what),
                        ofPlayer[what]);
            }
        }
        checks.due("setting(0) at first", x.setting(0), 20);
        checks.due("setting(1) at first", x.setting(1), 3);
        laidWith("at first", x, 0);
    }

    private static void nothingIsKeptInANewObject() {
        RiverMeeting x = new RiverMeeting();
        checks.throwsState("undo() at first", x::undo);
        checks.throwsState("restore(0) at first", () -> x.restore(0));
        checks.throwsState("restore(1) at first", () -> x.restore(1));
        checks.throwsState("load() at first", x::load);
        checks.due("errorPosition() at first", x.errorPosition(), 0);
        checks.due("clearText() at first", x.clearText(), 0);
    }

    /** The costs of a seed, both beginnings, and nothing else: 257 calls. */
    private static void laidWith(String when, RiverMeeting x, long seed) {
        for (int cell = 0; cell < 64; cell++) {
            int column = cell % 8;
            int row = cell / 8;
            String where = " of the cell " + cell + " " + when;
            int there = cell == 1 ? 1 : cell == 6 ? 2 : 0;
            checks.due("cost for 0" + where, x.cellOf(column, row, 0), Games.cost(seed, 0, cell));
            checks.due("cost for 1" + where, x.cellOf(column, row, 1), Games.cost(seed, 1, cell));
            checks.due("content" + where, x.cellOf(column, row, 2), there);
            checks.due("dam" + where, x.cellOf(column, row, 3), -1);
        }
    }

    /** The field has 8 columns and 8 rows of cells, x and y from 0 to 7. */
    private static void columnsAndRows() {
        RiverMeeting x = new RiverMeeting();
        for (int at = 0; at < 8; at++) {
            checks.due("cellOf(" + at + ", 0, 3)", x.cellOf(at, 0, 3), -1);
            checks.due("cellOf(0, " + at + ", 3)", x.cellOf(0, at, 3), -1);
            checks.due("cellOf(" + at + ", 7, 3)", x.cellOf(at, 7, 3), -1);
            checks.due("cellOf(7, " + at + ", 3)", x.cellOf(7, at, 3), -1);
        }
        for (int wrong : WRONG) {
            for (int at = 0; at < 8; at += 7) {
                int good = at;
                String first = "(" + wrong + ", " + at;
                String second = "(" + at + ", " + wrong;
                checks.throwsIndex("cellOf" + first, () -> x.cellOf(wrong, good, 0));
                checks.throwsIndex("cellOf" + second, () -> x.cellOf(good, wrong, 0));
                checks.throwsIndex("whyDam" + first, () -> x.whyDam(wrong, good));
                checks.throwsIndex("whyDam" + second, () -> x.whyDam(good, wrong));
                checks.throwsIndex("dam" + first, () -> x.dam(wrong, good));
                checks.throwsIndex("dam" + second, () -> x.dam(good, wrong));
            }
        }
    }

    /** The number of a cell is 8 * y + x, y greater to the south. */
    private static void numbersOfCells() {
        RiverMeeting x = Games.played("we" + "s".repeat(14));
        for (int row = 0; row < 8; row++) {
            checks.due("the west border", x.course(0, row + 1), 8 * row);
            checks.due("the east border", x.course(1, row + 1), 8 * row + 7);
            checks.due("the river of 0 there", x.cellOf(0, row, 2), 1);
            checks.due("the river of 1 there", x.cellOf(7, row, 2), 2);
        }
        RiverMeeting along = Games.played("s".repeat(14) + "ewewe");
        int[] lowest = {57, 58, 59, 60};
        for (int k = 0; k < 4; k++) {
            checks.due("along the row 7", along.course(0, 7 + k), lowest[k]);
            checks.due("its content", along.cellOf(1 + k, 7, 2), k == 3 ? 3 : 1);
        }
        checks.due("the cell where they met", along.about(5), 60);
    }

    /** x * 6364136223846793005L + 1442695040888963407L (with long overflow). */
    private static void costsOfSeeds() {
        for (long seed : SEEDS) {
            RiverMeeting x = new RiverMeeting();
            checks.due("game(" + seed + ")", x.game(seed), 2);
            laidWith("of the seed " + seed, x, seed);
        }
    }

    /** A cell has a cost of 0 to 9 for each player. */
    private static void costsFromNoughtToNine() {
        for (int p = 0; p < 2; p++) {
            int[] times = new int[10];
            for (int seed = 0; seed < 8; seed++) {
                RiverMeeting x = new RiverMeeting();
                x.game(seed);
                for (int cell = 0; cell < 64; cell++) {
                    int cost = x.cellOf(cell % 8, cell / 8, p);
                    checks.isTrue("a cost is 0 to 9", cost >= 0 && cost <= 9);
                    times[Math.floorMod(cost, 10)]++;
                }
            }
            for (int cost = 0; cost < 10; cost++) {
                checks.seen("the cost " + cost + " for " + p, times[cost]);
            }
        }
    }

    /** Promise 11: returns the games so far, with this one; up to the 512th call of an object. */
    private static void countsGames() {
        RiverMeeting x = new RiverMeeting();
        for (int games = 2; games <= 512; games++) {
            checks.due("game()", x.game(games), games);
        }
        checks.due("the games so far", x.about(0), 512);
        RiverMeeting y = new RiverMeeting();
        for (int games = 2; games <= 100; games++) {
            y.game(games);
            checks.due("the games so far", y.about(0), games);
        }
    }

    /** No dam is there then, it is the turn of the player 0, and no turns were made. */
    private static void beginsAnew() {
        String[] before = {
            "", "s", "ss", "d33", "sd33", "d33d44d35d46d37d47", Games.STUCK, Games.STUCK + "f",
            Games.MET, Games.DRAWN, Games.BEFORE_LAST_MEETING + "w", "n05s", "v001v109"
        };
        for (String moves : before) {
            RiverMeeting x = Games.played(moves);
            int games = x.about(0);
            checks.due("game(17) behind " + moves, x.game(17), games + 1);
            int[] numbers = {games + 1, 1, 0, 0, 0, -1, -1};
            for (int what = 0; what < numbers.length; what++) {
                checks.due("about(" + what + ") of a new game behind " + moves, x.about(what),
                        numbers[what]);
            }
            for (int p = 0; p < 2; p++) {
                int player = p;
                int beginning = p == 0 ? 1 : 6;
                int[] ofPlayer = {1, beginning, 0, 0};
                for (int what = 0; what < ofPlayer.length; what++) {
                    checks.due("playerOf(" + p + ", " + what + ") of a new game behind " + moves,
                            x.playerOf(p, what), ofPlayer[what]);
                }
                checks.due("the beginning", x.course(p, 0), beginning);
                checks.throwsIndex("the river of the older game", () -> x.course(player, 1));
            }
            laidWith("of a new game behind " + moves, x, 17);
        }
    }

    /** A new game has 80 turns and three dams for each player again, whatever was before. */
    private static void turnsBeginAnew() {
        String three = "d33d44d35d46d37d47";
        RiverMeeting x = Games.played(three + "n00" + three);
        checks.due("dams of the new game", x.about(4), 6);
        checks.due("a fourth dam", x.dam(0, 7), 2);
        RiverMeeting y = Games.played("n00" + Games.BEFORE_LAST_FLOOD);
        checks.due("79 turns of the second game", y.about(3), 79);
        checks.due("it is under way", y.about(1), 1);
        y.flood();
        checks.due("it is over with its 80th turn", y.about(1), 3);
        RiverMeeting z = Games.played("sn00");
        checks.due("a step of 0 behind an odd number of turns", z.step(2), 0);
        checks.due("the head of 0", z.playerOf(0, 1), 0);
        RiverMeeting dam = Games.played("v003d33sn00" + "s".repeat(7));
        checks.due("the dam of the older game goes nowhere", dam.about(4), 0);
    }

    /** A game that is under way is not won by anybody then. */
    private static void nobodyWinsAGameThatIsLeft() {
        int[] less = new int[2];
        for (int seed = 0; seed < 30; seed++) {
            RiverMeeting x = new RiverMeeting();
            x.game(seed);
            Games.play(x, "ssss");
            int difference = x.playerOf(0, 2) - x.playerOf(1, 2);
            less[0] += difference < 0 ? 1 : 0;
            less[1] += difference > 0 ? 1 : 0;
            checks.due("nobody won yet", x.about(6), -1);
            x.game(seed + 1);
            checks.due("nobody won the new game", x.about(6), -1);
            checks.due("games won by 0", x.playerOf(0, 4), 0);
            checks.due("games won by 1", x.playerOf(1, 4), 0);
        }
        checks.seen("0 had paid less", less[0]);
        checks.seen("1 had paid less", less[1]);
    }

    /** What counts "in all games", and the settings, stay in another game. */
    private static void staysOverGames() {
        RiverMeeting x = Games.played("v007v109" + Games.STUCK);
        x.step(0);
        x.dam(1, 0);
        x.dam(4, 4);
        x.flood();
        int paid0 = x.playerOf(0, 5);
        int paid1 = x.playerOf(1, 5);
        checks.isTrue("both have paid", paid0 > 5 && paid1 > 0);
        x.game(8);
        checks.due("refused in all games", x.about(7), 3);
        checks.due("floods in all games", x.about(8), 1);
        checks.due("paid by 0 in all games", x.playerOf(0, 5), paid0);
        checks.due("paid by 1 in all games", x.playerOf(1, 5), paid1);
        checks.due("setting(0)", x.setting(0), 7);
        checks.due("setting(1)", x.setting(1), 9);
        x.step(2);
        checks.due("paid by 0 in the new game", x.playerOf(0, 2), Games.cost(8, 0, 0));
        checks.due("paid by 0 in both games", x.playerOf(0, 5), paid0 + Games.cost(8, 0, 0));
        checks.due("paid by 1 in the new game", x.playerOf(1, 2), 0);
    }
}
