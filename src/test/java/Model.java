import java.util.ArrayDeque;
import java.util.ArrayList;
import java.util.Deque;
import java.util.HashMap;
import java.util.List;
import java.util.Map;
import java.util.TreeSet;

/**
 * The document told a second time, in the plainest way and by other means than the class (lists,
 * maps, ways row by row, a pattern for the text), so that both can be compared.
 */
final class Model {
    /** The state of the document; copied whole whenever it is remembered or saved. */
    static final class State {
        int[][] costs = new int[2][64];
        List<List<Integer>> rivers = new ArrayList<>();
        Map<Integer, Integer> dams = new HashMap<>();
        int[] paid = new int[2];
        int[] built = new int[2];
        int[] won = new int[2];
        int[] paidEver = new int[2];
        int[] settings = {20, 3};
        int games = 0;
        int turns = 0;
        int turn = 0;
        int met = -1;
        int winner = -1;
        int refused = 0;
        int floods = 0;

        State copy() {
            State c = new State();
            c.costs = new int[][] {costs[0].clone(), costs[1].clone()};
            for (List<Integer> river : rivers) {
                c.rivers.add(new ArrayList<>(river));
            }
            c.dams = new HashMap<>(dams);
            c.paid = paid.clone();
            c.built = built.clone();
            c.won = won.clone();
            c.paidEver = paidEver.clone();
            c.settings = settings.clone();
            c.games = games;
            c.turns = turns;
            c.turn = turn;
            c.met = met;
            c.winner = winner;
            c.refused = refused;
            c.floods = floods;
            return c;
        }

        int head(int p) {
            return rivers.get(p).get(rivers.get(p).size() - 1);
        }

        boolean over() {
            return met != -1 || turns == 80;
        }
    }

    private State s = new State();
    private String text = "";
    private Deque<State> remembered = new ArrayDeque<>();
    private State[] slots = new State[2];

    Model() {
        begin(0);
    }

    private Model(State state) {
        s = state;
    }

    // ---- text

    int append(int c) {
        argument(c >= 0 && c <= 255);
        state(text.length() < 120);
        text += (char) c;
        return text.length();
    }

    int clearText() {
        int length = text.length();
        text = "";
        return length;
    }

    /** The longest part from the left that some text with an end of its own begins with. */
    int errorPosition() {
        String whole = "W([sewfb]|n[0-9][0-9]|d[0-7][0-7]|v[01](0[1-9]|[1-3][0-9]|40))*";
        if (text.matches(whole)) {
            return -1;
        }
        String begun = whole + "(n[0-9]?|d[0-7]?|v([01][0-4]?)?)?";
        int good = 0;
        for (int length = 1; length <= text.length(); length++) {
            if (text.substring(0, length).matches("(?s)" + begun)) {
                good = length;
            } else {
                break;
            }
        }
        return good;
    }

    int load() {
        state(errorPosition() == -1);
        s = new State();
        begin(0);
        remembered.clear();
        slots = new State[2];
        int out = 0;
        String rest = text.substring(1);
        while (!rest.isEmpty()) {
            int size = "nd".indexOf(rest.charAt(0)) >= 0 ? 3 : rest.charAt(0) == 'v' ? 4 : 1;
            if (!command(rest.substring(0, size))) {
                out++;
            }
            rest = rest.substring(size);
        }
        return out;
    }

    private boolean command(String c) {
        State before = s.copy();
        boolean made;
        try {
            made = commandMade(c);
        } catch (RuntimeException e) {
            made = false;
        }
        if (!made) {
            s = before;
        }
        remembered.clear();
        return made;
    }

    private boolean commandMade(String c) {
        char sign = c.charAt(0);
        if (sign == 'n') {
            game(Integer.parseInt(c.substring(1)));
        } else if (sign == 'd') {
            return dam(c.charAt(1) - '0', c.charAt(2) - '0') == 0;
        } else if (sign == 'f') {
            flood();
        } else if (sign == 'v') {
            set(c.charAt(1) - '0', Integer.parseInt(c.substring(2)));
        } else if (sign == 'b') {
            return best() == -1 || step(best()) == 0;
        } else {
            return step("sew".indexOf(sign)) == 0;
        }
        return true;
    }

    // ---- what there is

    int about(int what) {
        argument(what >= 0 && what <= 8);
        int phase = s.met != -1 ? 2 : s.turns == 80 ? 3 : 1;
        int[] all = {
            s.games, phase, phase == 1 ? s.turn : -1, s.turns, s.dams.size(), s.met, s.winner,
            s.refused, s.floods
        };
        return all[what];
    }

    int playerOf(int p, int what) {
        index(p == 0 || p == 1);
        argument(what >= 0 && what <= 5);
        int[] all = {
            s.rivers.get(p).size(), s.head(p), s.paid[p], s.built[p], s.won[p], s.paidEver[p]
        };
        return all[what];
    }

    int cellOf(int x, int y, int what) {
        index(onField(x, y));
        argument(what >= 0 && what <= 3);
        int cell = 8 * y + x;
        int there = s.dams.containsKey(cell) ? 4 : 0;
        there += s.rivers.get(0).contains(cell) ? 1 : 0;
        there += s.rivers.get(1).contains(cell) ? 2 : 0;
        int[] all = {s.costs[0][cell], s.costs[1][cell], there, s.dams.getOrDefault(cell, -1)};
        return all[what];
    }

    int course(int p, int k) {
        index(p == 0 || p == 1);
        index(k >= 0 && k < s.rivers.get(p).size());
        return s.rivers.get(p).get(k);
    }

    int setting(int what) {
        argument(what == 0 || what == 1);
        return s.settings[what];
    }

    // ---- actions

    int game(long seed) {
        remember();
        begin(seed);
        return s.games;
    }

    private void begin(long seed) {
        long x = seed;
        for (int cell = 0; cell < 64; cell++) {
            x = x * 6364136223846793005L + 1442695040888963407L;
            int r = (int) (x >>> 33);
            s.costs[0][cell] = r % 10;
            s.costs[1][cell] = r / 10 % 10;
        }
        s.rivers = new ArrayList<>(List.of(new ArrayList<>(List.of(1)),
                new ArrayList<>(List.of(6))));
        s.dams.clear();
        s.paid = new int[2];
        s.built = new int[2];
        s.games++;
        s.turns = 0;
        s.turn = 0;
        s.met = -1;
        s.winner = -1;
    }

    int step(int direction) {
        argument(direction >= 0 && direction <= 2);
        state(!s.over());
        remember();
        int reason = why(direction);
        if (reason != 0) {
            s.refused++;
            return reason;
        }
        int p = s.turn;
        int cell = s.head(p) + new int[] {8, 1, -1}[direction];
        boolean meets = s.rivers.get(1 - p).contains(cell);
        s.rivers.get(p).add(cell);
        if (meets) {
            s.met = cell;
            pay(0, s.settings[1] * s.costs[0][cell]);
            pay(1, s.settings[1] * s.costs[1][cell]);
            if (s.paid[0] != s.paid[1]) {
                s.winner = s.paid[0] < s.paid[1] ? 0 : 1;
                s.won[s.winner]++;
            }
        } else {
            pay(p, s.costs[p][cell]);
        }
        endTurn();
        return 0;
    }

    private void pay(int p, int amount) {
        s.paid[p] += amount;
        s.paidEver[p] += amount;
    }

    private void endTurn() {
        s.turns++;
        s.turn = 1 - s.turn;
        s.dams.replaceAll((cell, stood) -> stood + 1);
        s.dams.values().removeIf(stood -> stood >= s.settings[0]);
    }

    int dam(int x, int y) {
        index(onField(x, y));
        state(!s.over());
        remember();
        int reason = whyDam(x, y);
        if (reason != 0) {
            s.refused++;
            return reason;
        }
        s.dams.put(8 * y + x, 0);
        s.built[s.turn]++;
        endTurn();
        return 0;
    }

    int flood() {
        state(!s.over());
        state(why(0) != 0 && why(1) != 0 && why(2) != 0);
        remember();
        int head = s.head(s.turn);
        int before = s.dams.size();
        for (int direction = 0; direction < 3; direction++) {
            if (why(direction) == 2) {
                s.dams.remove(head + new int[] {8, 1, -1}[direction]);
            }
        }
        int washed = before - s.dams.size();
        pay(s.turn, 5);
        s.floods++;
        endTurn();
        return washed;
    }

    int set(int what, int v) {
        argument(what == 0 || what == 1);
        argument(v >= 1 && v <= (what == 0 ? 40 : 9));
        remember();
        int previous = s.settings[what];
        s.settings[what] = v;
        return previous;
    }

    int undo() {
        state(!remembered.isEmpty());
        s = remembered.removeLast();
        return remembered.size();
    }

    private void remember() {
        remembered.addLast(s.copy());
        if (remembered.size() > 14) {
            remembered.removeFirst();
        }
    }

    // ---- what would be

    int why(int direction) {
        argument(direction >= 0 && direction <= 2);
        if (s.over()) {
            return -1;
        }
        int head = s.head(s.turn);
        int x = head % 8 + new int[] {0, 1, -1}[direction];
        int y = head / 8 + new int[] {1, 0, 0}[direction];
        if (!onField(x, y)) {
            return 1;
        }
        if (s.dams.containsKey(8 * y + x)) {
            return 2;
        }
        return s.rivers.get(s.turn).contains(8 * y + x) ? 3 : 0;
    }

    int whyDam(int x, int y) {
        index(onField(x, y));
        if (s.over()) {
            return -1;
        }
        if (cellOf(x, y, 2) != 0) {
            return 1;
        }
        if (s.built[s.turn] == 3) {
            return 2;
        }
        State before = s;
        s = s.copy();
        s.dams.put(8 * y + x, 0);
        boolean shut = shutIn(0) || shutIn(1);
        s = before;
        return shut ? 3 : 0;
    }

    private boolean shutIn(int p) {
        for (int cell : steps(p, false).keySet()) {
            if (cell >= 56 || s.rivers.get(1 - p).contains(cell)) {
                return false;
            }
        }
        return true;
    }

    /** The fewest steps to each cell that the head can come to, the head's own one with 0. */
    private Map<Integer, Integer> steps(int p, boolean roundBoth) {
        Map<Integer, Integer> found = new HashMap<>();
        found.put(s.head(p), 0);
        boolean more = true;
        while (more) {
            more = false;
            for (int from : new ArrayList<>(found.keySet())) {
                for (int to : around(from)) {
                    boolean barred = s.dams.containsKey(to) || s.rivers.get(p).contains(to)
                            || roundBoth && s.rivers.get(1 - p).contains(to);
                    int count = found.get(from) + 1;
                    if (!barred && found.getOrDefault(to, 99) > count) {
                        found.put(to, count);
                        more = true;
                    }
                }
            }
        }
        return found;
    }

    private static List<Integer> around(int cell) {
        List<Integer> all = new ArrayList<>();
        if (cell < 56) {
            all.add(cell + 8);
        }
        if (cell % 8 < 7) {
            all.add(cell + 1);
        }
        if (cell % 8 > 0) {
            all.add(cell - 1);
        }
        return all;
    }

    int cheapest(int p, int way) {
        index(p == 0 || p == 1);
        argument(way == 0 || way == 1);
        return cheapestFrom(p, s.head(p));
    }

    /** From the sea upwards: along a row in one direction, then down. */
    private int cheapestFrom(int p, int from) {
        int[] below = new int[8];
        for (int y = 6; y >= from / 8; y--) {
            int[] here = new int[8];
            for (int x = 0; x < 8; x++) {
                here[x] = Math.min(alongRow(p, x, y, 1, below), alongRow(p, x, y, -1, below));
            }
            below = here;
        }
        int least = from >= 56 ? 0 : below[from % 8];
        return least >= 10000 ? -1 : least;
    }

    private int alongRow(int p, int x, int y, int side, int[] below) {
        int least = 10000;
        int along = 0;
        for (int c = x; c == x || c >= 0 && c < 8 && cellOf(c, y, 2) == 0; c += side) {
            along += c == x ? 0 : s.costs[p][8 * y + c];
            if (cellOf(c, y + 1, 2) == 0) {
                least = Math.min(least, along + s.costs[p][8 * y + 8 + c] + below[c]);
            }
        }
        return least;
    }

    int meetsIn(int p) {
        index(p == 0 || p == 1);
        if (s.met != -1) {
            return 0;
        }
        Map<Integer, Integer> steps = steps(p, false);
        int fewest = 99;
        for (int cell : s.rivers.get(1 - p)) {
            fewest = Math.min(fewest, steps.getOrDefault(cell, 99));
        }
        return fewest == 99 ? -1 : fewest;
    }

    int leastWished() {
        TreeSet<Integer> both = new TreeSet<>(steps(0, true).keySet());
        both.retainAll(steps(1, true).keySet());
        int found = -1;
        int greatest = -1;
        for (int cell : both) {
            int cost = s.costs[0][cell] + s.costs[1][cell];
            if (cost > greatest && cellOf(cell % 8, cell / 8, 2) == 0) {
                found = cell;
                greatest = cost;
            }
        }
        return found;
    }

    int best() {
        int found = -1;
        int least = Integer.MAX_VALUE;
        for (int direction = 0; direction < 3; direction++) {
            if (why(direction) != 0) {
                continue;
            }
            int cell = s.head(s.turn) + new int[] {8, 1, -1}[direction];
            int cost = s.costs[s.turn][cell];
            int onward = cheapestFrom(s.turn, cell);
            int price = onward == -1 ? 9999 : cost + onward;
            if (s.rivers.get(1 - s.turn).contains(cell)) {
                price = s.settings[1] * cost;
            }
            if (price < least) {
                found = direction;
                least = price;
            }
        }
        return found;
    }

    // ---- scripts, simulations

    int runScript(int n, long script) {
        argument(n >= 1 && n <= 4);
        argument(script >= 0 && Long.toString(script).length() <= 4 * n || script == 0);
        String digits = "0".repeat(16) + script;
        digits = digits.substring(digits.length() - 4 * n);
        Model copy = new Model(s.copy());
        for (int i = 0; i < n; i++) {
            boolean made;
            try {
                made = copy.group(digits.substring(4 * i, 4 * i + 4));
            } catch (RuntimeException e) {
                made = false;
            }
            if (!made) {
                return i;
            }
        }
        return -1;
    }

    private boolean group(String g) {
        int[] d = {g.charAt(0) - '0', g.charAt(1) - '0', g.charAt(2) - '0', g.charAt(3) - '0'};
        int two = 10 * d[2] + d[3];
        if (g.matches("10..")) {
            game(two);
            return true;
        } else if (g.matches("200.")) {
            return step(d[3]) == 0;
        } else if (g.matches("30..")) {
            return dam(d[2], d[3]) == 0;
        } else if (g.equals("4000")) {
            flood();
            return true;
        } else if (g.matches("5...")) {
            set(d[1], two);
            return true;
        } else if (g.matches("600.")) {
            for (int i = 0; i < d[3]; i++) {
                if (best() == -1) {
                    return false;
                }
                step(best());
            }
            return true;
        } else if (g.matches("7[01]..")) {
            return s.paid[d[1]] <= two;
        } else if (g.matches("800.")) {
            return about(1) == d[3];
        } else if (g.matches("9[01]..")) {
            return s.rivers.get(d[1]).size() >= two;
        }
        return false;
    }

    int simulate(long seed, int m) {
        argument(m >= 1 && m <= 200);
        Model copy = new Model(s.copy());
        int meetings = 0;
        long x = seed;
        for (int i = 0; i < m; i++) {
            x = x * 6364136223846793005L + 1442695040888963407L;
            int r = (int) (x >>> 33);
            int q = r / 8;
            if (copy.s.over()) {
                copy.game(q);
            } else {
                copy.simulateTurn(r % 8, q);
                meetings += copy.s.met != -1 ? 1 : 0;
            }
        }
        int cells = copy.s.rivers.get(0).size() + copy.s.rivers.get(1).size();
        return 10000 * (copy.s.games - s.games) + 100 * meetings + cells;
    }

    private void simulateTurn(int kind, int q) {
        if (why(0) != 0 && why(1) != 0 && why(2) != 0) {
            flood();
        } else if (kind == 0) {
            dam(q % 8, q / 8 % 8);
        } else if (kind <= 4) {
            step(q % 3);
        } else {
            step(best());
        }
    }

    // ---- save slots

    int save(int slot) {
        index(slot == 0 || slot == 1);
        slots[slot] = s.copy();
        return s.turns;
    }

    int restore(int slot) {
        index(slot == 0 || slot == 1);
        state(slots[slot] != null);
        s = slots[slot].copy();
        remembered.clear();
        return s.turns;
    }

    // ---- exceptions

    private static boolean onField(int x, int y) {
        return x >= 0 && x < 8 && y >= 0 && y < 8;
    }

    private static void index(boolean good) {
        if (!good) {
            throw new IndexOutOfBoundsException();
        }
    }

    private static void argument(boolean good) {
        if (!good) {
            throw new IllegalArgumentException();
        }
    }

    private static void state(boolean good) {
        if (!good) {
            throw new IllegalStateException();
        }
    }
}
