/**
 * The field as an object tells it, read once; what would be is told here by other means than in
 * the class: ways to the sea row by row, ways to a cell by rounds.
 */
final class Seen {
    private static final int FAR = 1000;

    private final int[][] costs = new int[2][64];
    private final int[] there = new int[64];
    private final int[] heads = new int[2];
    private final int turn;
    private final int factor;

    Seen(RiverMeeting x) {
        for (int cell = 0; cell < 64; cell++) {
            costs[0][cell] = x.cellOf(cell % 8, cell / 8, 0);
            costs[1][cell] = x.cellOf(cell % 8, cell / 8, 1);
            there[cell] = x.cellOf(cell % 8, cell / 8, 2);
        }
        heads[0] = x.playerOf(0, 1);
        heads[1] = x.playerOf(1, 1);
        turn = x.about(2);
        factor = x.setting(1);
    }

    /** Checks what the promises 19 to 22 answer of the object: 10 calls behind those of Seen. */
    static void compare(Checks checks, String when, RiverMeeting x) {
        Seen seen = new Seen(x);
        for (int p = 0; p < 2; p++) {
            int cheapest = seen.cheapest(p);
            checks.due("cheapest(" + p + ", 1) " + when, x.cheapest(p, 1), cheapest);
            checks.due("meetsIn(" + p + ") " + when, x.meetsIn(p), seen.meetsIn(p));
            checks.due("cheapest(" + p + ", 1) again " + when, x.cheapest(p, 1), cheapest);
            checks.due("cheapest(" + p + ", 0) " + when, x.cheapest(p, 0), cheapest);
        }
        checks.due("leastWished() " + when, x.leastWished(), seen.leastWished());
        checks.due("best() " + when, x.best(), seen.best());
    }

    /** Checks what the promise 18 answers of each cell in a game under way: 65 calls more. */
    static void compareDams(Checks checks, String when, RiverMeeting x) {
        Seen seen = new Seen(x);
        int built = x.playerOf(seen.turn, 3);
        for (int cell = 0; cell < 64; cell++) {
            checks.due("whyDam() of " + cell + " " + when, x.whyDam(cell % 8, cell / 8),
                    seen.whyDam(cell, built));
        }
    }

    private int whyDam(int cell, int built) {
        if (there[cell] != 0) {
            return 1;
        }
        if (built == 3) {
            return 2;
        }
        there[cell] = 4;
        boolean shut = isShutIn(0) || isShutIn(1);
        there[cell] = 0;
        return shut ? 3 : 0;
    }

    private boolean isShutIn(int p) {
        int[] steps = steps(p);
        boolean out = heads[p] / 8 == 7;
        for (int cell = 0; cell < 64; cell++) {
            boolean goal = there[cell] == 2 - p || there[cell] == 0 && cell / 8 == 7;
            out |= goal && steps[cell] < FAR;
        }
        return !out;
    }

    private boolean free(int column, int row) {
        return column >= 0 && column < 8 && row < 8 && there[8 * row + column] == 0;
    }

    int cheapest(int p) {
        return cheapestFrom(p, heads[p]);
    }

    /** From the row 6 up: along the row in one direction, then down. */
    private int cheapestFrom(int p, int from) {
        if (from / 8 == 7) {
            return 0;
        }
        int[] below = new int[8];
        for (int row = 6; row >= from / 8; row--) {
            int[] here = new int[8];
            for (int column = 0; column < 8; column++) {
                here[column] = Math.min(along(p, column, row, 1, below),
                        along(p, column, row, -1, below));
            }
            below = here;
        }
        return below[from % 8] >= FAR ? -1 : below[from % 8];
    }

    private int along(int p, int column, int row, int side, int[] below) {
        int least = FAR;
        int paid = 0;
        for (int c = column; c == column || free(c, row); c += side) {
            paid += c == column ? 0 : costs[p][8 * row + c];
            if (free(c, row + 1)) {
                least = Math.min(least, paid + costs[p][8 * row + 8 + c] + below[c]);
            }
        }
        return least;
    }

    /** The fewest steps to each cell over free ones; others are entered only as the last one. */
    private int[] steps(int p) {
        int[] steps = new int[64];
        java.util.Arrays.fill(steps, FAR);
        steps[heads[p]] = 0;
        for (int round = 0; round < 64; round++) {
            for (int cell = 0; cell < 64; cell++) {
                if (cell != heads[p] && there[cell] != 4) {
                    int before = Math.min(from(p, steps, cell - 8, cell >= 8),
                            Math.min(from(p, steps, cell - 1, cell % 8 > 0),
                                    from(p, steps, cell + 1, cell % 8 < 7)));
                    steps[cell] = Math.min(steps[cell], before + 1);
                }
            }
        }
        return steps;
    }

    private int from(int p, int[] steps, int cell, boolean exists) {
        return exists && (there[cell] == 0 || cell == heads[p]) ? steps[cell] : FAR;
    }

    int meetsIn(int p) {
        int[] steps = steps(p);
        int fewest = FAR;
        for (int cell = 0; cell < 64; cell++) {
            if (there[cell] == 3) {
                return 0;
            }
            if (there[cell] == 2 - p) {
                fewest = Math.min(fewest, steps[cell]);
            }
        }
        return fewest >= FAR ? -1 : fewest;
    }

    int leastWished() {
        int[][] steps = {steps(0), steps(1)};
        int found = -1;
        int greatest = -1;
        for (int cell = 0; cell < 64; cell++) {
            boolean open = there[cell] == 0 && steps[0][cell] < FAR && steps[1][cell] < FAR;
            if (open && costs[0][cell] + costs[1][cell] > greatest) {
                found = cell;
                greatest = costs[0][cell] + costs[1][cell];
            }
        }
        return found;
    }

    /** How many cells have the greatest cost among those where both would least wish to meet. */
    int leastWishedCells() {
        int found = leastWished();
        int[][] steps = {steps(0), steps(1)};
        int count = 0;
        for (int cell = 0; cell < 64 && found >= 0; cell++) {
            boolean open = there[cell] == 0 && steps[0][cell] < FAR && steps[1][cell] < FAR;
            boolean alike = costs[0][cell] + costs[1][cell] == costs[0][found] + costs[1][found];
            count += open && alike ? 1 : 0;
        }
        return count;
    }

    /** What best() compares, by direction; FAR without a way to the sea, more if not possible. */
    int[] prices() {
        int[] prices = new int[3];
        for (int direction = 0; direction < 3; direction++) {
            prices[direction] = turn < 0 ? FAR + 1 : price(direction);
        }
        return prices;
    }

    private int price(int direction) {
        int column = heads[turn] % 8 + new int[] {0, 1, -1}[direction];
        int row = heads[turn] / 8 + (direction == 0 ? 1 : 0);
        if (column < 0 || column > 7 || row > 7) {
            return FAR + 1;
        }
        int cell = 8 * row + column;
        if (there[cell] == 2 - turn) {
            return factor * costs[turn][cell];
        }
        if (there[cell] != 0) {
            return FAR + 1;
        }
        int onward = cheapestFrom(turn, cell);
        return onward < 0 ? FAR : costs[turn][cell] + onward;
    }

    int best() {
        int[] prices = prices();
        int found = -1;
        for (int direction = 2; direction >= 0; direction--) {
            if (prices[direction] <= FAR && (found < 0 || prices[direction] <= prices[found])) {
                found = direction;
            }
        }
        return found;
    }
}
