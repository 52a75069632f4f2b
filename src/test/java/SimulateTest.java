import java.util.ArrayList;
import java.util.List;

/** The promise 24: simulate. */
public final class SimulateTest {
    private static final Checks checks = new Checks("simulate");

    private static final String[] GAMES = {
        "", "v003v105n12", Games.MET, Games.DRAWN, Games.STUCK, "d33sd44", Games.CORNERS,
        Games.BEFORE_LAST_FLOOD, Games.BEFORE_LAST_MEETING, "d30d40d31d41d32d42", "v109ewew"
    };

    private static final long[] SEEDS = {
        0, 1, 2, 3, 42, 99, 1234567, -1, -77, 1L << 33, Long.MIN_VALUE, Long.MIN_VALUE + 1,
        Long.MAX_VALUE - 1, Long.MAX_VALUE
    };

    public static void main(String[] args) {
        numbersOfTurns();
        aGameThatIsOverIsBegunAnew();
        aPlayerWithoutAStepFloods();
        theLastTurnOfAGame();
        eachKindOfTurn();
        asPlayed();
        allTurnCountsAsPlayed();
        changesNothing();
        checks.end();
    }

    /** IllegalArgumentException if m is out of range: 1 to 200. */
    private static void numbersOfTurns() {
        int[] wrong = {0, 201, -1, 202, Integer.MIN_VALUE, Integer.MAX_VALUE};
        for (String moves : new String[] {"", Games.MET}) {
            RiverMeeting x = Games.played(moves);
            for (int m : wrong) {
                checks.throwsArgument("simulate(5, " + m + ")", () -> x.simulate(5, m));
            }
            checks.isTrue("simulate(5, 1)", x.simulate(5, 1) >= 0);
            checks.isTrue("simulate(5, 200)", x.simulate(5, 200) >= 0);
        }
    }

    /** If the game is over: game(q); a meeting before the turns is none of theirs. */
    private static void aGameThatIsOverIsBegunAnew() {
        for (long seed : SEEDS) {
            RiverMeeting met = Games.played(Games.MET);
            checks.due("one turn behind a meeting", met.simulate(seed, 1), 10002);
            RiverMeeting drawn = Games.played(Games.DRAWN);
            checks.due("one turn behind a drawn game", drawn.simulate(seed, 1), 10002);
        }
    }

    /** Otherwise, if no step is possible: flood(), whatever was drawn. */
    private static void aPlayerWithoutAStepFloods() {
        for (long seed : SEEDS) {
            checks.due("one turn of a flood", Games.played(Games.STUCK).simulate(seed, 1), 5);
            checks.due("64 floods", Games.played(Games.CORNERS).simulate(seed, 64), 18);
            checks.due("64 floods and a new game", Games.played(Games.CORNERS).simulate(seed, 65),
                    10002);
        }
    }

    private static void theLastTurnOfAGame() {
        for (long seed : SEEDS) {
            RiverMeeting x = Games.played(Games.BEFORE_LAST_FLOOD);
            checks.due("the last turn", x.simulate(seed, 1), 18);
            checks.due("the last turn and a new game", x.simulate(seed, 2), 10002);
        }
    }

    private static int drawn(long seed) {
        return (int) ((seed * 6364136223846793005L + 1442695040888963407L) >>> 33);
    }

    /** By r % 8: 0: dam; 1 to 4: step(q % 3); otherwise: step(best()). */
    private static void eachKindOfTurn() {
        int[] seen = new int[8];
        for (long seed = -300; seed < 300; seed++) {
            int r = drawn(seed);
            int q = r / 8;
            RiverMeeting x = Games.played("ewew");
            boolean meets = r % 8 == 0 ? false : r % 8 <= 4 ? q % 3 == 1 : x.best() == 1;
            boolean steps = r % 8 == 0 ? false : r % 8 <= 4 ? q % 3 != 2 : true;
            int due = (meets ? 100 : 0) + 6 + (steps ? 1 : 0);
            checks.due("a turn of the kind " + r % 8, x.simulate(seed, 1), due);
            checks.due("a turn of the kind " + r % 8 + " at first",
                    Games.played("").simulate(seed, 1), r % 8 == 0 ? 2 : 3);
            seen[r % 8]++;
        }
        for (int kind = 0; kind < 8; kind++) {
            checks.seen("the kind " + kind, seen[kind]);
        }
    }

    /** Plays the turns by calls, on objects of which none is used for more than 512. */
    private static final class Player {
        private final String before;
        private final List<long[]> actions = new ArrayList<>();
        private RiverMeeting x;
        private int kept = 0;

        Player(String before) {
            this.before = before;
            x = Games.played(before);
        }

        void turn(int r) {
            if (actions.size() == kept + 25) {
                kept = actions.size();
                x = Games.played(before);
                for (long[] action : actions) {
                    make(action);
                }
            }
            long[] action = actionOf(r, r / 8);
            actions.add(action);
            make(action);
        }

        private long[] actionOf(int r, int q) {
            if (x.about(1) != 1) {
                return new long[] {0, q};
            }
            if (x.why(0) != 0 && x.why(1) != 0 && x.why(2) != 0) {
                return new long[] {1};
            }
            if (r % 8 == 0) {
                return new long[] {2, q % 8, q / 8 % 8};
            }
            return new long[] {3, r % 8 <= 4 ? q % 3 : x.best()};
        }

        private void make(long[] action) {
            if (action[0] == 0) {
                x.game(action[1]);
            } else if (action[0] == 1) {
                x.flood();
            } else if (action[0] == 2) {
                x.dam((int) action[1], (int) action[2]);
            } else {
                x.step((int) action[1]);
            }
        }
    }

    /** All answers for 1 to m turns. */
    private static int[] played(String moves, long seed, int m) {
        Player player = new Player(moves);
        int[] due = new int[m + 1];
        int games = 0;
        int meetings = 0;
        long number = seed;
        for (int turn = 1; turn <= m; turn++) {
            number = number * 6364136223846793005L + 1442695040888963407L;
            boolean over = player.x.about(1) != 1;
            player.turn((int) (number >>> 33));
            games += over ? 1 : 0;
            meetings += !over && player.x.about(1) == 2 ? 1 : 0;
            due[turn] = 10000 * games + 100 * meetings
                    + player.x.playerOf(0, 0) + player.x.playerOf(1, 0);
        }
        return due;
    }

    private static void asPlayed() {
        int[] counts = {1, 2, 3, 10, 50, 80, 120, 199, 200};
        int meetings = 0;
        int several = 0;
        for (String moves : GAMES) {
            for (long seed : SEEDS) {
                int[] due = played(moves, seed, 200);
                RiverMeeting x = Games.played(moves);
                for (int m : counts) {
                    checks.due("simulate(" + seed + ", " + m + ") behind " + moves,
                            x.simulate(seed, m), due[m]);
                }
                meetings += due[200] / 100 % 100 > 0 ? 1 : 0;
                several += due[200] / 10000 > 2 ? 1 : 0;
            }
        }
        checks.seen("turns that met rivers", meetings);
        checks.seen("several games", several);
    }

    private static void allTurnCountsAsPlayed() {
        for (long seed = 1000; seed < 1010; seed++) {
            int[] due = played("", seed, 200);
            RiverMeeting x = new RiverMeeting();
            for (int m = 1; m <= 200; m++) {
                checks.due("simulate(" + seed + ", " + m + ")", x.simulate(seed, m), due[m]);
            }
        }
    }

    private static RiverMeeting kept(String moves) {
        RiverMeeting x = Games.played(moves);
        x.save(1);
        return Games.written(x, "Wsd33");
    }

    private static void changesNothing() {
        for (String moves : GAMES) {
            checks.alike("simulate() behind " + moves, () -> {
                RiverMeeting x = kept(moves);
                x.simulate(4711, 200);
                x.simulate(-1, 1);
                x.simulate(Long.MAX_VALUE, 80);
                return x;
            }, () -> kept(moves));
        }
    }
}
