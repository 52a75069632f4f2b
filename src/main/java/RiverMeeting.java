import java.util.Arrays;

/**
 * A game of two rivers that meet where both players least wish.
 *
 * <p>All rows are made in constructors and used again, so that a long run of calls makes no
 * further objects.
 */
public final class RiverMeeting {
    /** There is no such result. */
    public static final int NONE = -1;

    private static final int SIZE = 8;
    private static final int CELLS = 64;
    private static final int LAST_ROW = 7;
    private static final int FIRST_BEGINNING = 1;
    private static final int SECOND_BEGINNING = 6;

    private static final int DIRECTIONS = 3;
    private static final int DAM_LIMIT = 3;
    private static final int TURN_LIMIT = 80;
    private static final int FLOOD_PRICE = 5;

    private static final int LASTING_AT_FIRST = 20;
    private static final int LASTING_LIMIT = 40;
    private static final int FACTOR_AT_FIRST = 3;
    private static final int FACTOR_LIMIT = 9;

    private static final int UNDER_WAY = 1;
    private static final int MET = 2;
    private static final int OVER_UNMET = 3;

    private static final int TEXT_LIMIT = 120;
    private static final int REMEMBERED_LIMIT = 14;
    private static final int COMMAND_LIMIT = 4;
    private static final int GROUP = 10000;
    private static final int SIMULATION_LIMIT = 200;

    private static final long LCG_FACTOR = 6364136223846793005L;
    private static final long LCG_SUMMAND = 1442695040888963407L;

    private final TextBuffer text = new TextBuffer();
    private final Game present = new Game();
    private final Game trial = new Game();
    private final Ways ways = new Ways();
    private final History history = new History();
    private final Slot firstSlot = new Slot();
    private final Slot secondSlot = new Slot();

    public RiverMeeting() {
        present.startAnew();
    }

    // ---- text

    public int append(int c) throws IllegalArgumentException, IllegalStateException {
        if (c < 0 || c > 255) {
            throw new IllegalArgumentException("a character code is 0 to 255");
        }
        if (text.isFull()) {
            throw new IllegalStateException("the text has 120 characters already");
        }
        return text.add((char) c);
    }

    public int clearText() {
        return text.empty();
    }

    public int errorPosition() {
        return text.firstError();
    }

    public int load() throws IllegalStateException {
        if (text.firstError() != NONE) {
            throw new IllegalStateException("the text is not a game");
        }
        present.startAnew();
        history.forgetAll();
        firstSlot.used = false;
        secondSlot.used = false;
        int leftOut = 0;
        int at = 1;
        for (int k = 0; k < TEXT_LIMIT && at < text.length; k++) {
            if (!doTextCommand(at)) {
                leftOut++;
            }
            at += TextBuffer.sizeOf(text.signAt(at));
        }
        return leftOut;
    }

    // ---- what there is

    public int about(int what) throws IllegalArgumentException {
        switch (what) {
            case 0:
                return present.games;
            case 1:
                return present.phase();
            case 2:
                return present.isOver() ? NONE : present.mover;
            case 3:
                return present.turns;
            case 4:
                return present.countDams();
            case 5:
                return present.meeting;
            case 6:
                return present.winner;
            case 7:
                return present.refusals;
            case 8:
                return present.floods;
            default:
                throw new IllegalArgumentException("what is 0 to 8");
        }
    }

    public int playerOf(int p, int what)
            throws IndexOutOfBoundsException, IllegalArgumentException {
        if (!isPlayer(p)) {
            throw new IndexOutOfBoundsException("a player is 0 or 1");
        }
        Side side = present.sideOf(p);
        switch (what) {
            case 0:
                return side.length;
            case 1:
                return side.head();
            case 2:
                return side.paid;
            case 3:
                return side.built;
            case 4:
                return side.won;
            case 5:
                return side.paidEver;
            default:
                throw new IllegalArgumentException("what is 0 to 5");
        }
    }

    public int cellOf(int x, int y, int what)
            throws IndexOutOfBoundsException, IllegalArgumentException {
        int cell = cellAt(x, y);
        if (cell == NONE) {
            throw new IndexOutOfBoundsException("there is no such cell");
        }
        switch (what) {
            case 0:
                return present.first.costOf(cell);
            case 1:
                return present.second.costOf(cell);
            case 2:
                return present.contentOf(cell);
            case 3:
                return present.stoodAt(cell);
            default:
                throw new IllegalArgumentException("what is 0 to 3");
        }
    }

    public int course(int p, int k) throws IndexOutOfBoundsException {
        if (!isPlayer(p)) {
            throw new IndexOutOfBoundsException("a player is 0 or 1");
        }
        int cell = present.sideOf(p).placeAt(k);
        if (cell == NONE) {
            throw new IndexOutOfBoundsException("the river has not so many cells");
        }
        return cell;
    }

    public int setting(int what) throws IllegalArgumentException {
        if (what != 0 && what != 1) {
            throw new IllegalArgumentException("a setting is 0 or 1");
        }
        return present.settingOf(what);
    }

    // ---- actions

    public int game(long seed) {
        history.remember(present);
        present.beginGame(seed);
        return present.games;
    }

    public int step(int direction) throws IllegalArgumentException, IllegalStateException {
        if (!isDirection(direction)) {
            throw new IllegalArgumentException("a direction is 0 to 2");
        }
        if (present.isOver()) {
            throw new IllegalStateException("the game is over");
        }
        history.remember(present);
        return present.tryStep(direction);
    }

    public int dam(int x, int y) throws IndexOutOfBoundsException, IllegalStateException {
        int cell = cellAt(x, y);
        if (cell == NONE) {
            throw new IndexOutOfBoundsException("there is no such cell");
        }
        if (present.isOver()) {
            throw new IllegalStateException("the game is over");
        }
        history.remember(present);
        return present.tryDam(cell, ways);
    }

    public int flood() throws IllegalStateException {
        if (!present.canFlood()) {
            throw new IllegalStateException("the game is over, or a step is possible");
        }
        history.remember(present);
        return present.washAway();
    }

    public int set(int what, int v) throws IllegalArgumentException {
        if (!isSettingValue(what, v)) {
            throw new IllegalArgumentException("there is no such setting or value");
        }
        history.remember(present);
        return present.changeSetting(what, v);
    }

    public int undo() throws IllegalStateException {
        if (history.count <= 0) {
            throw new IllegalStateException("no state is remembered");
        }
        history.takeBack(present);
        return history.count;
    }

    // ---- what would be

    public int why(int direction) throws IllegalArgumentException {
        if (!isDirection(direction)) {
            throw new IllegalArgumentException("a direction is 0 to 2");
        }
        return present.isOver() ? NONE : present.reasonAgainstStep(direction);
    }

    public int whyDam(int x, int y) throws IndexOutOfBoundsException {
        int cell = cellAt(x, y);
        if (cell == NONE) {
            throw new IndexOutOfBoundsException("there is no such cell");
        }
        return present.isOver() ? NONE : present.reasonAgainstDam(cell, ways);
    }

    public int cheapest(int p, int way)
            throws IndexOutOfBoundsException, IllegalArgumentException {
        if (!isPlayer(p)) {
            throw new IndexOutOfBoundsException("a player is 0 or 1");
        }
        if (way != 0 && way != 1) {
            throw new IllegalArgumentException("a way is 0 or 1");
        }
        Side side = present.sideOf(p);
        ways.openFree(present);
        if (way == 0) {
            return ways.cheapestCellFirst(side.costs, side.head());
        }
        return ways.cheapestByRounds(side.costs, side.head());
    }

    public int meetsIn(int p) throws IndexOutOfBoundsException {
        if (!isPlayer(p)) {
            throw new IndexOutOfBoundsException("a player is 0 or 1");
        }
        if (present.meeting != NONE) {
            return 0;
        }
        return ways.stepsToMeet(present, p);
    }

    public int leastWished() {
        return ways.dearestForBoth(present);
    }

    public int best() {
        return ways.bestStep(present);
    }

    // ---- scripts, simulations

    public int runScript(int n, long script) throws IllegalArgumentException {
        if (n < 1 || n > COMMAND_LIMIT) {
            throw new IllegalArgumentException("a script has 1 to 4 commands");
        }
        if (script < 0) {
            throw new IllegalArgumentException("a script is not negative");
        }
        if (withoutLastGroups(script, n) != 0) {
            throw new IllegalArgumentException("a script has at most 4 digits a command");
        }
        trial.copyFrom(present);
        for (int i = 0; i < n; i++) {
            if (!doGroup((int) (withoutLastGroups(script, n - 1 - i) % GROUP))) {
                return i;
            }
        }
        return NONE;
    }

    public int simulate(long seed, int m) throws IllegalArgumentException {
        if (m < 1 || m > SIMULATION_LIMIT) {
            throw new IllegalArgumentException("m is 1 to 200");
        }
        trial.copyFrom(present);
        int gamesBefore = trial.games;
        int meetings = 0;
        long x = seed;
        for (int i = 0; i < m; i++) {
            x = nextNumber(x);
            simulateTurn(drawnFrom(x));
            if (trial.meeting != NONE) {
                meetings++;
            }
        }
        int cells = trial.first.length + trial.second.length;
        return 10000 * (trial.games - gamesBefore) + 100 * meetings + cells;
    }

    // ---- save slots

    public int save(int slot) throws IndexOutOfBoundsException {
        if (slot != 0 && slot != 1) {
            throw new IndexOutOfBoundsException("a save slot is 0 or 1");
        }
        Slot chosen = slotOf(slot);
        chosen.kept.copyFrom(present);
        chosen.used = true;
        return present.turns;
    }

    public int restore(int slot) throws IndexOutOfBoundsException, IllegalStateException {
        if (slot != 0 && slot != 1) {
            throw new IndexOutOfBoundsException("a save slot is 0 or 1");
        }
        Slot chosen = slotOf(slot);
        if (!chosen.used) {
            throw new IllegalStateException("nothing has been saved in the slot");
        }
        present.copyFrom(chosen.kept);
        history.forgetAll();
        return present.turns;
    }

    // ---- the commands of texts, scripts and simulations

    /** Tells whether the command is done; one that would be refused or throw is left out. */
    private boolean doTextCommand(int at) {
        switch (text.signAt(at)) {
            case 'n':
                present.beginGame(text.numberAt(at + 1));
                return true;
            case 's':
                return present.stepIfPossible(0);
            case 'e':
                return present.stepIfPossible(1);
            case 'w':
                return present.stepIfPossible(2);
            case 'd':
                return present.damIfPossible(
                        cellAt(text.digitAt(at + 1), text.digitAt(at + 2)), ways);
            case 'f':
                return present.floodIfPossible();
            case 'b':
                present.stepIfPossible(ways.bestStep(present));
                return true;
            case 'v':
                return present.changeIfPossible(text.digitAt(at + 1), text.numberAt(at + 2));
            default:
                return false;
        }
    }

    /** Does a command of a script on the trial, and tells whether it succeeds. */
    private boolean doGroup(int group) {
        int second = group / 100 % 10;
        int third = group / 10 % 10;
        int last = group % 10;
        int lastTwo = group % 100;
        switch (group / 1000) {
            case 1:
                if (second != 0) {
                    return false;
                }
                trial.beginGame(lastTwo);
                return true;
            case 2:
                return second == 0 && third == 0 && trial.stepIfPossible(last);
            case 3:
                return second == 0 && trial.damIfPossible(cellAt(third, last), ways);
            case 4:
                return group == 4000 && trial.floodIfPossible();
            case 5:
                return trial.changeIfPossible(second, lastTwo);
            case 6:
                return second == 0 && third == 0 && followBest(last);
            case 7:
                return isPlayer(second) && trial.sideOf(second).paid <= lastTwo;
            case 8:
                return second == 0 && third == 0 && trial.phase() == last;
            case 9:
                return isPlayer(second) && trial.sideOf(second).length >= lastTwo;
            default:
                return false;
        }
    }

    private boolean followBest(int times) {
        for (int i = 0; i < times; i++) {
            if (!trial.stepIfPossible(ways.bestStep(trial))) {
                return false;
            }
        }
        return true;
    }

    private void simulateTurn(int r) {
        int q = r / 8;
        int kind = r % 8;
        if (trial.isOver()) {
            trial.beginGame(q);
        } else if (trial.canFlood()) {
            trial.washAway();
        } else if (kind == 0) {
            trial.tryDam(cellAt(q % SIZE, q / SIZE % SIZE), ways);
        } else if (kind <= 4) {
            trial.tryStep(q % DIRECTIONS);
        } else {
            trial.tryStep(ways.bestStep(trial));
        }
    }

    private Slot slotOf(int slot) {
        return slot == 0 ? firstSlot : secondSlot;
    }

    // ---- numbers, cells and ranges

    private static long withoutLastGroups(long script, int groups) {
        long rest = script;
        for (int k = 0; k < groups; k++) {
            rest /= GROUP;
        }
        return rest;
    }

    private static long nextNumber(long x) {
        return x * LCG_FACTOR + LCG_SUMMAND;
    }

    private static int drawnFrom(long x) {
        return (int) (x >>> 33);
    }

    private static boolean isPlayer(int p) {
        return p == 0 || p == 1;
    }

    private static boolean isDirection(int direction) {
        return direction >= 0 && direction < DIRECTIONS;
    }

    private static boolean isSettingValue(int what, int v) {
        if (what == 0) {
            return v >= 1 && v <= LASTING_LIMIT;
        }
        return what == 1 && v >= 1 && v <= FACTOR_LIMIT;
    }

    /** Tells whether an index fits the rows that have a place for each cell. */
    private static boolean fits(int index) {
        return index >= 0 && index < CELLS;
    }

    private static int cellAt(int x, int y) {
        if (x < 0 || x >= SIZE || y < 0 || y >= SIZE) {
            return NONE;
        }
        return SIZE * y + x;
    }

    private static int cellBeside(int cell, int direction) {
        if (!fits(cell)) {
            return NONE;
        }
        int x = cell % SIZE;
        int y = cell / SIZE;
        switch (direction) {
            case 0:
                return cellAt(x, y + 1);
            case 1:
                return cellAt(x + 1, y);
            case 2:
                return cellAt(x - 1, y);
            default:
                return NONE;
        }
    }

    private static void copyRow(int[] from, int[] to) {
        for (int i = 0; i < from.length && i < to.length; i++) {
            to[i] = from[i];
        }
    }

    /** What belongs to one player: the costs, the river, and the numbers of the player. */
    private static final class Side {
        final int[] costs = new int[CELLS];
        final int[] places = new int[CELLS];
        final boolean[] bed = new boolean[CELLS];
        int length;
        int paid;
        int built;
        int won;
        int paidEver;

        void beginAt(int cell) {
            for (int i = 0; i < CELLS; i++) {
                bed[i] = false;
            }
            length = 0;
            paid = 0;
            built = 0;
            flowTo(cell);
        }

        void flowTo(int cell) {
            if (fits(cell) && fits(length)) {
                places[length] = cell;
                bed[cell] = true;
                length++;
            }
        }

        void pay(int amount) {
            paid += amount;
            paidEver += amount;
        }

        int head() {
            return length > 0 && length <= CELLS ? places[length - 1] : NONE;
        }

        int placeAt(int k) {
            return k < length && fits(k) ? places[k] : NONE;
        }

        boolean holds(int cell) {
            return fits(cell) && bed[cell];
        }

        int costOf(int cell) {
            return cell >= 0 && cell < CELLS ? costs[cell] : 0;
        }

        void copyFrom(Side other) {
            copyRow(other.costs, costs);
            copyRow(other.places, places);
            for (int cell = 0; cell < CELLS; cell++) {
                bed[cell] = other.bed[cell];
            }
            length = other.length;
            paid = other.paid;
            built = other.built;
            won = other.won;
            paidEver = other.paidEver;
        }
    }

    /** The state: the game that is under way or over, the settings, and what counts on. */
    private static final class Game {
        final Side first = new Side();
        final Side second = new Side();
        /** For each cell the turns for which the dam there has stood, NONE without one. */
        final int[] stood = new int[CELLS];
        int lasting;
        int factor;
        int games;
        int turns;
        int mover;
        int meeting;
        int winner;
        int refusals;
        int floods;

        void startAnew() {
            lasting = LASTING_AT_FIRST;
            factor = FACTOR_AT_FIRST;
            games = 0;
            refusals = 0;
            floods = 0;
            first.won = 0;
            first.paidEver = 0;
            second.won = 0;
            second.paidEver = 0;
            beginGame(0);
        }

        void beginGame(long seed) {
            layField(seed);
            Arrays.fill(stood, NONE);
            first.beginAt(FIRST_BEGINNING);
            second.beginAt(SECOND_BEGINNING);
            games++;
            turns = 0;
            mover = 0;
            meeting = NONE;
            winner = NONE;
        }

        private void layField(long seed) {
            long x = seed;
            for (int cell = 0; cell < CELLS; cell++) {
                x = nextNumber(x);
                int r = drawnFrom(x);
                first.costs[cell] = r % 10;
                second.costs[cell] = r / 10 % 10;
            }
        }

        Side sideOf(int p) {
            return p == 0 ? first : second;
        }

        boolean isOver() {
            return phase() != UNDER_WAY;
        }

        int phase() {
            if (meeting != NONE) {
                return MET;
            }
            return turns >= TURN_LIMIT ? OVER_UNMET : UNDER_WAY;
        }

        boolean hasDam(int cell) {
            return fits(cell) && stood[cell] != NONE;
        }

        int stoodAt(int cell) {
            return fits(cell) ? stood[cell] : NONE;
        }

        int countDams() {
            int dams = 0;
            for (int cell = 0; cell < CELLS; cell++) {
                if (stood[cell] != NONE) {
                    dams++;
                }
            }
            return dams;
        }

        int contentOf(int cell) {
            if (hasDam(cell)) {
                return 4;
            }
            return (first.holds(cell) ? 1 : 0) + (second.holds(cell) ? 2 : 0);
        }

        int settingOf(int what) {
            return what == 0 ? lasting : factor;
        }

        int changeSetting(int what, int v) {
            int previous = settingOf(what);
            if (what == 0) {
                lasting = v;
            } else {
                factor = v;
            }
            return previous;
        }

        boolean changeIfPossible(int what, int v) {
            if (!isSettingValue(what, v)) {
                return false;
            }
            changeSetting(what, v);
            return true;
        }

        int reasonAgainstStep(int direction) {
            Side own = sideOf(mover);
            int cell = cellBeside(own.head(), direction);
            if (cell == NONE) {
                return 1;
            }
            if (hasDam(cell)) {
                return 2;
            }
            return own.holds(cell) ? 3 : 0;
        }

        int tryStep(int direction) {
            int reason = reasonAgainstStep(direction);
            if (reason == 0) {
                makeStep(direction);
            } else {
                refusals++;
            }
            return reason;
        }

        boolean stepIfPossible(int direction) {
            if (isOver() || reasonAgainstStep(direction) != 0) {
                return false;
            }
            makeStep(direction);
            return true;
        }

        private void makeStep(int direction) {
            Side own = sideOf(mover);
            int cell = cellBeside(own.head(), direction);
            own.flowTo(cell);
            if (sideOf(1 - mover).holds(cell)) {
                meetAt(cell);
            } else {
                own.pay(own.costOf(cell));
            }
            endTurn();
        }

        private void meetAt(int cell) {
            meeting = cell;
            first.pay(factor * first.costOf(cell));
            second.pay(factor * second.costOf(cell));
            if (first.paid < second.paid) {
                winner = 0;
                first.won++;
            } else if (second.paid < first.paid) {
                winner = 1;
                second.won++;
            }
        }

        int reasonAgainstDam(int cell, Ways ways) {
            if (contentOf(cell) != 0) {
                return 1;
            }
            if (sideOf(mover).built >= DAM_LIMIT) {
                return 2;
            }
            return ways.isShutIn(this, 0, cell) || ways.isShutIn(this, 1, cell) ? 3 : 0;
        }

        int tryDam(int cell, Ways ways) {
            int reason = reasonAgainstDam(cell, ways);
            if (reason == 0) {
                buildDam(cell);
            } else {
                refusals++;
            }
            return reason;
        }

        boolean damIfPossible(int cell, Ways ways) {
            if (!fits(cell) || isOver() || reasonAgainstDam(cell, ways) != 0) {
                return false;
            }
            buildDam(cell);
            return true;
        }

        private void buildDam(int cell) {
            if (fits(cell)) {
                stood[cell] = 0;
            }
            sideOf(mover).built++;
            endTurn();
        }

        boolean canFlood() {
            if (isOver()) {
                return false;
            }
            for (int direction = 0; direction < DIRECTIONS; direction++) {
                if (reasonAgainstStep(direction) == 0) {
                    return false;
                }
            }
            return true;
        }

        boolean floodIfPossible() {
            if (!canFlood()) {
                return false;
            }
            washAway();
            return true;
        }

        int washAway() {
            Side own = sideOf(mover);
            int washed = 0;
            for (int direction = 0; direction < DIRECTIONS; direction++) {
                int cell = cellBeside(own.head(), direction);
                if (fits(cell) && stood[cell] != NONE) {
                    stood[cell] = NONE;
                    washed++;
                }
            }
            own.pay(FLOOD_PRICE);
            floods++;
            endTurn();
            return washed;
        }

        private void endTurn() {
            turns++;
            mover = 1 - mover;
            for (int cell = 0; cell < CELLS; cell++) {
                if (stood[cell] != NONE) {
                    stood[cell]++;
                    if (stood[cell] >= lasting) {
                        stood[cell] = NONE;
                    }
                }
            }
        }

        void copyFrom(Game other) {
            first.copyFrom(other.first);
            second.copyFrom(other.second);
            copyRow(other.stood, stood);
            lasting = other.lasting;
            factor = other.factor;
            games = other.games;
            turns = other.turns;
            mover = other.mover;
            meeting = other.meeting;
            winner = other.winner;
            refusals = other.refusals;
            floods = other.floods;
        }
    }

    /** Searches over the field; its rows are made once and filled again by each search. */
    private static final class Ways {
        /** More than any way or step costs. */
        private static final int NO_WAY = 1000000;

        /** The cells south, east and west of each cell, NONE where there is none. */
        private final int[] beside = new int[CELLS * DIRECTIONS];
        /** The cells that a way may enter; it may begin in any cell. */
        private final boolean[] open = new boolean[CELLS];
        /** The least steps or costs to each cell, NONE where no way leads (yet). */
        private final int[] far = new int[CELLS];
        private final int[] farOfFirst = new int[CELLS];
        private final int[] waiting = new int[CELLS];
        private final boolean[] settled = new boolean[CELLS];

        Ways() {
            for (int i = 0; i < CELLS * DIRECTIONS; i++) {
                beside[i] = cellBeside(i / DIRECTIONS, i % DIRECTIONS);
            }
        }

        /** Opens the cells without dams and rivers. */
        void openFree(Game game) {
            for (int cell = 0; cell < CELLS; cell++) {
                open[cell] = game.stood[cell] == NONE && !game.first.bed[cell]
                        && !game.second.bed[cell];
            }
        }

        /** Opens the cells without dams and without the river of that side. */
        private void openBesides(Game game, Side own) {
            for (int cell = 0; cell < CELLS; cell++) {
                open[cell] = game.stood[cell] == NONE && !own.bed[cell];
            }
        }

        private void beginFrom(int from) {
            for (int cell = 0; cell < CELLS; cell++) {
                far[cell] = cell == from ? 0 : NONE;
                settled[cell] = false;
            }
        }

        /** Counts the steps from a cell to all cells to which open cells lead. */
        private void spreadFrom(int from) {
            beginFrom(from);
            waiting[0] = from;
            int count = 1;
            for (int k = 0; k < count && k < CELLS; k++) {
                int cell = waiting[k];
                for (int direction = 0; fits(cell) && direction < DIRECTIONS; direction++) {
                    int next = beside[cell * DIRECTIONS + direction];
                    if (fits(next) && open[next] && far[next] == NONE && count < CELLS) {
                        far[next] = far[cell] + 1;
                        waiting[count] = next;
                        count++;
                    }
                }
            }
        }

        /** Tells whether a river could not come out any more if a dam were in the cell. */
        boolean isShutIn(Game game, int p, int damCell) {
            Side own = game.sideOf(p);
            Side other = game.sideOf(1 - p);
            openBesides(game, own);
            if (fits(damCell)) {
                open[damCell] = false;
            }
            spreadFrom(own.head());
            for (int cell = 0; cell < CELLS; cell++) {
                if (far[cell] != NONE && (cell / SIZE == LAST_ROW || other.holds(cell))) {
                    return false;
                }
            }
            return true;
        }

        int stepsToMeet(Game game, int p) {
            Side own = game.sideOf(p);
            Side other = game.sideOf(1 - p);
            openBesides(game, own);
            spreadFrom(own.head());
            int fewest = NONE;
            for (int cell = 0; cell < CELLS; cell++) {
                if (other.holds(cell) && far[cell] != NONE
                        && (fewest == NONE || far[cell] < fewest)) {
                    fewest = far[cell];
                }
            }
            return fewest;
        }

        int dearestForBoth(Game game) {
            openFree(game);
            spreadFrom(game.first.head());
            copyRow(far, farOfFirst);
            spreadFrom(game.second.head());
            int dearest = NONE;
            int greatest = NONE;
            for (int cell = 0; cell < CELLS; cell++) {
                int cost = game.first.costOf(cell) + game.second.costOf(cell);
                if (open[cell] && farOfFirst[cell] != NONE && far[cell] != NONE
                        && cost > greatest) {
                    dearest = cell;
                    greatest = cost;
                }
            }
            return dearest;
        }

        int bestStep(Game game) {
            if (game.isOver()) {
                return NONE;
            }
            openFree(game);
            int chosen = NONE;
            int least = NO_WAY;
            for (int direction = 0; direction < DIRECTIONS; direction++) {
                if (game.reasonAgainstStep(direction) == 0) {
                    int price = priceOfStep(game, direction);
                    if (chosen == NONE || price < least) {
                        chosen = direction;
                        least = price;
                    }
                }
            }
            return chosen;
        }

        private int priceOfStep(Game game, int direction) {
            Side own = game.sideOf(game.mover);
            int cell = cellBeside(own.head(), direction);
            if (game.sideOf(1 - game.mover).holds(cell)) {
                return game.factor * own.costOf(cell);
            }
            int onward = cheapestCellFirst(own.costs, cell);
            return onward == NONE ? NO_WAY : own.costOf(cell) + onward;
        }

        /** Settles the cheapest cell first; the first one in the last row tells the costs. */
        int cheapestCellFirst(int[] costs, int from) {
            beginFrom(from);
            for (int round = 0; round < CELLS; round++) {
                int cell = cheapestUnsettled();
                if (!fits(cell)) {
                    return NONE;
                }
                if (cell / SIZE == LAST_ROW) {
                    return far[cell];
                }
                settled[cell] = true;
                cheapenBeside(costs, cell);
            }
            return NONE;
        }

        private int cheapestUnsettled() {
            int chosen = NONE;
            int least = NO_WAY;
            for (int cell = 0; cell < CELLS; cell++) {
                if (far[cell] != NONE && !settled[cell] && far[cell] < least) {
                    chosen = cell;
                    least = far[cell];
                }
            }
            return chosen;
        }

        /** Goes through all cells until nothing changes, and takes the least of the last row. */
        int cheapestByRounds(int[] costs, int from) {
            beginFrom(from);
            boolean changed = true;
            for (int round = 0; round < CELLS && changed; round++) {
                changed = false;
                for (int cell = 0; cell < CELLS; cell++) {
                    if (far[cell] != NONE && cheapenBeside(costs, cell)) {
                        changed = true;
                    }
                }
            }
            int least = NONE;
            for (int cell = SIZE * LAST_ROW; cell < CELLS; cell++) {
                if (far[cell] != NONE && (least == NONE || far[cell] < least)) {
                    least = far[cell];
                }
            }
            return least;
        }

        /** Tells whether a cell beside became cheaper by a way through this one. */
        private boolean cheapenBeside(int[] costs, int cell) {
            boolean changed = false;
            if (cell < 0 || cell >= CELLS) {
                return false;
            }
            for (int direction = 0; direction < DIRECTIONS; direction++) {
                int next = beside[cell * DIRECTIONS + direction];
                if (next >= 0 && next < CELLS && next < costs.length && open[next]) {
                    int cost = far[cell] + costs[next];
                    if (far[next] == NONE || cost < far[next]) {
                        far[next] = cost;
                        changed = true;
                    }
                }
            }
            return changed;
        }
    }

    /** The states before the latest actions, in a ring. */
    private static final class History {
        private final Game[] states = new Game[REMEMBERED_LIMIT];
        private int next;
        int count;

        History() {
            for (int i = 0; i < REMEMBERED_LIMIT; i++) {
                states[i] = new Game();
            }
        }

        void forgetAll() {
            count = 0;
        }

        void remember(Game game) {
            Game place = stateAt(next);
            if (place != null) {
                place.copyFrom(game);
                next = (next + 1) % REMEMBERED_LIMIT;
                count = Math.min(count + 1, REMEMBERED_LIMIT);
            }
        }

        void takeBack(Game game) {
            int latest = (next + REMEMBERED_LIMIT - 1) % REMEMBERED_LIMIT;
            Game place = stateAt(latest);
            if (place != null && count > 0) {
                game.copyFrom(place);
                next = latest;
                count--;
            }
        }

        private Game stateAt(int place) {
            return place >= 0 && place < REMEMBERED_LIMIT ? states[place] : null;
        }
    }

    /** A save slot. */
    private static final class Slot {
        final Game kept = new Game();
        boolean used;
    }

    /** The text, with what is allowed in it. */
    private static final class TextBuffer {
        private final char[] signs = new char[TEXT_LIMIT];
        int length;

        boolean isFull() {
            return length >= TEXT_LIMIT;
        }

        int add(char sign) {
            if (length >= 0 && length < TEXT_LIMIT) {
                signs[length] = sign;
                length++;
            }
            return length;
        }

        int empty() {
            int previous = length;
            length = 0;
            return previous;
        }

        char signAt(int at) {
            return at >= 0 && at < length && at < TEXT_LIMIT ? signs[at] : (char) 0;
        }

        int digitAt(int at) {
            return signAt(at) - '0';
        }

        int numberAt(int at) {
            return 10 * digitAt(at) + digitAt(at + 1);
        }

        int firstError() {
            if (signAt(0) != 'W') {
                return 0;
            }
            int at = 1;
            for (int k = 0; k < TEXT_LIMIT && at < length; k++) {
                int size = sizeOf(signAt(at));
                if (size == 0) {
                    return at;
                }
                for (int offset = 1; offset < size; offset++) {
                    if (at + offset >= length) {
                        return length;
                    }
                    if (!isDigitAllowed(at, offset)) {
                        return at + offset;
                    }
                }
                at += size;
            }
            return NONE;
        }

        /** The characters of a command that begins with the sign; 0 if none does. */
        static int sizeOf(char sign) {
            switch (sign) {
                case 's':
                case 'e':
                case 'w':
                case 'f':
                case 'b':
                    return 1;
                case 'n':
                case 'd':
                    return 3;
                case 'v':
                    return 4;
                default:
                    return 0;
            }
        }

        private boolean isDigitAllowed(int at, int offset) {
            int digit = digitAt(at + offset);
            if (digit < 0 || digit > 9) {
                return false;
            }
            switch (signAt(at)) {
                case 'n':
                    return true;
                case 'd':
                    return digit < SIZE;
                case 'v':
                    return isDigitOfSetting(offset, digit, digitAt(at + offset - 1));
                default:
                    return false;
            }
        }

        /** The digit of the setting is 0 or 1, those of its value make 01 to 40. */
        private static boolean isDigitOfSetting(int offset, int digit, int before) {
            if (offset == 1) {
                return digit <= 1;
            }
            if (offset == 2) {
                return digit <= 4;
            }
            if (before == 0) {
                return digit > 0;
            }
            return before < 4 || digit == 0;
        }
    }
}
