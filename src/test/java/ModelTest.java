/**
 * All promises: runs of calls on the class and on the model, whose answers must be alike. Each run
 * has the 512 calls that the document promises of an object.
 */
public final class ModelTest {
    private static final int RUNS = 1200;
    private static final int CALLS = 512;
    private static final String SIGNS = "sssewbbbbfndv0123456789Wx";

    private final Checks checks = new Checks("model");
    private long random;
    private RiverMeeting x;
    private Model y;
    private final StringBuilder trace = new StringBuilder();
    private boolean differed = false;
    private int calls = 0;
    private final int[] seen = new int[8];

    public static void main(String[] args) {
        ModelTest test = new ModelTest();
        for (int run = 0; run < RUNS; run++) {
            test.run(run);
        }
        test.endWithWhatWasSeen();
    }

    /** Runs that come to none of the rarer things would compare too little. */
    private void endWithWhatWasSeen() {
        String[] names = {
            "met", "drawn", "flooded", "dam refused as a river would be shut in", "loaded",
            "restored", "won", "undone"
        };
        for (int i = 0; i < names.length; i++) {
            checks.due("seen in the runs: " + names[i], seen[i] > 20 ? 1 : 0, 1);
        }
        checks.end();
    }

    private int next(int bound) {
        random = random * 6364136223846793005L + 1442695040888963407L;
        return (int) ((random >>> 33) % bound);
    }

    /** Now and then an argument that lies outside. */
    private int argument(int bound) {
        int odd = next(60);
        return odd == 0 ? -1 : odd == 1 ? bound : odd == 2 ? Integer.MIN_VALUE : next(bound);
    }

    private void run(int run) {
        random = run * 7919L + 13;
        x = new RiverMeeting();
        y = new Model();
        trace.setLength(0);
        differed = false;
        calls = 0;
        int acting = 30 + next(CALLS - 29);
        while (calls < acting && !differed) {
            act(run % 4);
            if (next(3) == 0) {
                ask();
            }
        }
        while (calls < CALLS && !differed) {
            ask();
        }
    }

    private interface Call {
        int answer();
    }

    private int same(String name, Call ofClass, Call ofModel) {
        if (calls == CALLS) {
            return Integer.MIN_VALUE;
        }
        calls++;
        trace.append(name).append("; ");
        String due = answer(ofModel);
        String answered = answer(ofClass);
        boolean alike = due.equals(answered);
        if (!alike && !differed) {
            differed = true;
            System.out.println("model: " + trace + " answered " + answered + ", due is " + due);
        }
        checks.due(name, alike ? 1 : 0, 1);
        return due.startsWith("t") ? Integer.MIN_VALUE : Integer.parseInt(due);
    }

    private static String answer(Call call) {
        try {
            return Integer.toString(call.answer());
        } catch (RuntimeException e) {
            return "throws " + e.getClass().getSimpleName();
        }
    }

    private void act(int kind) {
        int choice = next(100);
        if (choice < 42) {
            turnOfSense(kind);
        } else if (choice < 52) {
            int d = argument(3);
            same("step " + d, () -> x.step(d), () -> y.step(d));
        } else if (choice < 64) {
            damSomewhere(kind);
        } else if (choice < 70) {
            seen[2] += same("flood", () -> x.flood(), () -> y.flood()) >= 0 ? 1 : 0;
        } else if (choice < 74) {
            int what = argument(2);
            int v = argument(what == 0 ? 42 : 11);
            same("set " + what + " " + v, () -> x.set(what, v), () -> y.set(what, v));
        } else if (choice < 76) {
            anotherGame(kind);
        } else if (choice < 82 && kind != 3) {
            seen[7] += same("undo", () -> x.undo(), () -> y.undo()) >= 0 ? 1 : 0;
        } else if (choice < 85) {
            int slot = argument(2);
            same("save " + slot, () -> x.save(slot), () -> y.save(slot));
        } else if (choice < 87 && kind != 3) {
            int slot = argument(2);
            int turns = same("restore " + slot, () -> x.restore(slot), () -> y.restore(slot));
            seen[5] += turns >= 0 ? 1 : 0;
        } else if (choice < 90) {
            scriptOrSimulation();
        } else if (choice == 90 && kind == 1) {
            text();
        }
        countWhatIsSeen();
    }

    private void countWhatIsSeen() {
        seen[0] += y.about(1) == 2 ? 1 : 0;
        seen[1] += y.about(1) == 3 ? 1 : 0;
        seen[6] += y.about(6) >= 0 ? 1 : 0;
    }

    private void anotherGame(int kind) {
        if (y.about(1) == 1 && kind != 0) {
            return;
        }
        long seed = next(3) == 0 ? random : next(100);
        same("game " + seed, () -> x.game(seed), () -> y.game(seed));
    }

    /** A possible step if there is one, some of them towards the other river, or a flood. */
    private void turnOfSense(int kind) {
        int[] possible = new int[3];
        int count = 0;
        for (int d = 0; d < 3; d++) {
            if (y.why(d) == 0) {
                possible[count++] = d;
            }
        }
        if (count == 0) {
            seen[2] += same("flood", () -> x.flood(), () -> y.flood()) >= 0 ? 1 : 0;
            return;
        }
        int towards = y.about(2) == 0 ? 1 : 2;
        int d = possible[next(count)];
        if (kind == 2 && next(3) > 0 && y.why(towards) == 0) {
            d = towards;
        } else if (kind != 2 && next(2) == 0) {
            d = y.best();
        }
        int direction = d;
        same("step " + d, () -> x.step(direction), () -> y.step(direction));
    }

    /** Most dams come near a head, where they are in the way. */
    private void damSomewhere(int kind) {
        int head = y.playerOf(next(2), 1);
        boolean near = next(3) > 0;
        int cx = near ? head % 8 + next(3) - 1 : argument(8);
        int cy = near ? head / 8 + next(2 + kind / 2) : argument(8);
        int answered = same("dam " + cx + " " + cy, () -> x.dam(cx, cy), () -> y.dam(cx, cy));
        seen[3] += answered == 3 ? 1 : 0;
    }

    private void scriptOrSimulation() {
        if (next(2) == 0) {
            long seed = next(2) == 0 ? random : next(1000);
            int m = next(8) == 0 ? argument(202) : 1 + next(200);
            same("simulate " + seed + " " + m, () -> x.simulate(seed, m),
                    () -> y.simulate(seed, m));
            return;
        }
        int n = next(20) == 0 ? argument(6) : 1 + next(4);
        long script = 0;
        for (int i = 0; i < n && i < 4; i++) {
            script = 10000 * script + group();
        }
        long whole = next(30) == 0 ? random : script;
        same("runScript " + n + " " + whole, () -> x.runScript(n, whole),
                () -> y.runScript(n, whole));
    }

    private int group() {
        int two = next(100);
        int digit = next(10);
        int player = next(2);
        switch (next(14)) {
            case 0:
                return 1000 + two;
            case 1:
            case 2:
            case 3:
                return 2000 + next(3);
            case 4:
                return 3000 + two;
            case 5:
                return 4000;
            case 6:
                return 5000 + 100 * player + next(player == 0 ? 42 : 11);
            case 7:
            case 8:
                return 6000 + digit;
            case 9:
                return 7000 + 100 * player + two;
            case 10:
                return 8000 + next(4);
            case 11:
                return 9000 + 100 * player + next(20);
            default:
                return next(10000);
        }
    }

    private void text() {
        same("clearText", () -> x.clearText(), () -> y.clearText());
        StringBuilder t = new StringBuilder(next(10) == 0 ? "" : "W");
        int commands = next(90);
        while (commands-- > 0) {
            t.append(command());
        }
        if (next(3) == 0 && t.length() > 0) {
            t.setCharAt(next(t.length()), (char) (next(4) == 0 ? next(256) : signOf(next(25))));
        }
        for (int i = 0; i < t.length() && i < 125; i++) {
            int c = t.charAt(i);
            same("append " + c, () -> x.append(c), () -> y.append(c));
        }
        same("errorPosition", () -> x.errorPosition(), () -> y.errorPosition());
        seen[4] += same("load", () -> x.load(), () -> y.load()) >= 0 ? 1 : 0;
    }

    private static char signOf(int i) {
        return SIGNS.charAt(i);
    }

    private String command() {
        char sign = signOf(next(13));
        if (sign == 'n') {
            return next(3) > 0 ? "b" : "n" + next(10) + next(10);
        }
        if (sign == 'd') {
            return "d" + next(8) + next(8);
        }
        if (sign == 'v') {
            int what = next(2);
            int v = 1 + next(what == 0 ? 40 : 12);
            return "v" + what + v / 10 + v % 10;
        }
        return String.valueOf(sign);
    }

    private void ask() {
        int p = argument(2);
        int way = argument(2);
        int d = argument(3);
        int cx = argument(8);
        int cy = argument(8);
        switch (next(12)) {
            case 0:
                same("cheapest " + p + " " + way, () -> x.cheapest(p, way),
                        () -> y.cheapest(p, way));
                break;
            case 1:
                same("meetsIn " + p, () -> x.meetsIn(p), () -> y.meetsIn(p));
                break;
            case 2:
                same("why " + d, () -> x.why(d), () -> y.why(d));
                break;
            case 3:
                same("leastWished", () -> x.leastWished(), () -> y.leastWished());
                break;
            case 4:
                same("best", () -> x.best(), () -> y.best());
                break;
            case 5:
                same("setting " + way, () -> x.setting(way), () -> y.setting(way));
                break;
            case 6:
            case 7:
                same("whyDam " + cx + " " + cy, () -> x.whyDam(cx, cy), () -> y.whyDam(cx, cy));
                break;
            default:
                askNumber(p, cx, cy);
        }
    }

    private void askNumber(int p, int cx, int cy) {
        int what = argument(9);
        int k = next(2) == 0 ? argument(6) : argument(42);
        switch (next(4)) {
            case 0:
                same("about " + what, () -> x.about(what), () -> y.about(what));
                break;
            case 1:
                same("playerOf " + p + " " + k, () -> x.playerOf(p, k), () -> y.playerOf(p, k));
                break;
            case 2:
                same("course " + p + " " + k, () -> x.course(p, k), () -> y.course(p, k));
                break;
            default:
                same("cellOf " + cx + " " + cy + " " + what % 4,
                        () -> x.cellOf(cx, cy, what % 4), () -> y.cellOf(cx, cy, what % 4));
        }
    }
}
