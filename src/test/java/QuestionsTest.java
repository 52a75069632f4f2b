/** Promises 17 to 22. */
public final class QuestionsTest {
    private static final Checks checks = new Checks("questions");

    private static final String[] GAMES = {
        "W", "Wewew", "Wewewe", "Wwwswd02wd12wd77se", "Wd01sws", "Wd77sed13sd33sd24ss",
        "Wn05bbbbbbbbbbbb", "Wn17d33d44bbbbbbbb", "Wn42bbd27bbd16bb", "Wn63d11d61wewesssss"
    };

    public static void main(String[] args) {
        why();
        whyDam();
        cheapest();
        cheapestOfAllWays();
        meetsIn();
        leastWished();
        leastWishedByHand();
        best();
        bestThatMeets();
        bestWithoutAWay();
        wrongInputs();
        changeNothing();
        checks.end();
    }

    private static void why() {
        RiverMeeting x = Checks.loaded("Wwe");
        checks.due("why(0)", x.why(0), 0);
        checks.due("why(1), the own river", x.why(1), 3);
        checks.due("why(2), no such cell", x.why(2), 1);
        checks.due("refused nowhere", x.about(7), 0);
        RiverMeeting dam = Checks.loaded("Wsd12");
        checks.due("why(0), a dam", dam.why(0), 2);
        checks.due("why(1)", dam.why(1), 0);
        checks.due("why(2)", dam.why(2), 0);
        RiverMeeting beside = Checks.loaded("Wewew");
        checks.due("why(1), the other river", beside.why(1), 0);
        RiverMeeting sea = Checks.loaded("W" + "s".repeat(14));
        checks.due("why(0), the sea", sea.why(0), 1);
        RiverMeeting met = Checks.loaded("Wewewe");
        RiverMeeting drawn = Checks.loaded("W" + "s".repeat(14) + "we" + "f".repeat(64));
        for (int direction = 0; direction < 3; direction++) {
            checks.due("why() of a game that is over", met.why(direction), -1);
            checks.due("why() of a drawn game", drawn.why(direction), -1);
        }
    }

    private static void whyDam() {
        RiverMeeting x = Checks.loaded("Wd33w");
        checks.due("whyDam() on the own river", x.whyDam(1, 0), 1);
        checks.due("whyDam() on the other river", x.whyDam(5, 0), 1);
        checks.due("whyDam() on a dam", x.whyDam(3, 3), 1);
        checks.due("whyDam() elsewhere", x.whyDam(3, 4), 0);
        checks.due("refused nowhere", x.about(7), 0);
        checks.due("nothing is built", x.about(4), 1);
        RiverMeeting three = Checks.loaded("Wd30d40d31d41d32d42");
        checks.due("whyDam(), three built", three.whyDam(3, 3), 2);
        checks.due("whyDam(), three built, on a dam", three.whyDam(3, 2), 1);
        RiverMeeting shut = Checks.loaded("Wwesssssssssssd16");
        checks.due("turn", shut.about(2), 0);
        checks.due("whyDam() that shuts in the own river", shut.whyDam(0, 7), 3);
        checks.due("whyDam() elsewhere", shut.whyDam(2, 2), 0);
        shut.step(0);
        checks.due("whyDam() beside a river in the row 7", shut.whyDam(1, 7), 0);
        RiverMeeting already = Checks.loaded("Wd01sw");
        checks.due("whyDam() of 1, with 0 shut in already", already.whyDam(7, 7), 3);
        RiverMeeting towards = Checks.loaded("Wwwswd02wd12wd77se");
        checks.due("whyDam() with a way to the other river alone", towards.whyDam(7, 6), 0);
        RiverMeeting both = Checks.loaded("Wv040d26d56d37d47ewewssssssssssss");
        checks.due("whyDam() with ways to each other alone", both.whyDam(0, 0), 0);
        RiverMeeting met = Checks.loaded("Wewewe");
        checks.due("whyDam() of a game that is over", met.whyDam(3, 3), -1);
        checks.due("whyDam() on a river then", met.whyDam(1, 0), -1);
    }

    private static void cheapest() {
        // all in the row 0 but for one column: the way down is told cell by cell
        RiverMeeting x = Checks.loaded("W" + "s".repeat(12));
        int south = Checks.cost(0, 0, 57);
        int west = Checks.cost(0, 0, 48) + Checks.cost(0, 0, 56);
        int east = Checks.cost(0, 0, 50) + Checks.cost(0, 0, 58);
        int due = Math.min(south, Math.min(west, east));
        for (int k = 51; k < 54; k++) {
            int along = 0;
            for (int cell = 50; cell <= k; cell++) {
                along += Checks.cost(0, 0, cell);
            }
            due = Math.min(due, along + Checks.cost(0, 0, k + 8));
        }
        checks.due("cheapest(0, 0)", x.cheapest(0, 0), due);
        checks.due("cheapest(0, 1)", x.cheapest(0, 1), due);
        RiverMeeting low = Checks.loaded("W" + "s".repeat(14));
        RiverMeeting shut = Checks.loaded("Wwwswd02wd12wd77se");
        for (int way = 0; way < 2; way++) {
            checks.due("cheapest() in the row 7", low.cheapest(0, way), 0);
            checks.due("cheapest() in the row 7", low.cheapest(1, way), 0);
            checks.due("cheapest() without a way", shut.cheapest(0, way), -1);
        }
    }

    /** The cheapest way is looked for among all ways, one after the other. */
    private static void cheapestOfAllWays() {
        for (String text : GAMES) {
            RiverMeeting x = Checks.loaded(text);
            for (int p = 0; p < 2; p++) {
                int due = leastDown(x, p, x.playerOf(p, 1));
                checks.due("cheapest(" + p + ", 0) in " + text, x.cheapest(p, 0), due);
                checks.due("cheapest(" + p + ", 1) in " + text, x.cheapest(p, 1), due);
            }
        }
    }

    private static boolean free(RiverMeeting x, int column, int row) {
        return column >= 0 && column < 8 && row < 8 && x.cellOf(column, row, 2) == 0;
    }

    /** Row by row: along a row in one direction, then down, or NONE. */
    private static int leastDown(RiverMeeting x, int p, int from) {
        int[] onward = new int[8];
        for (int row = 6; row >= from / 8; row--) {
            int[] here = new int[8];
            for (int column = 0; column < 8; column++) {
                here[column] = leastFrom(x, p, column, row, onward);
            }
            onward = here;
        }
        return from / 8 == 7 ? 0 : onward[from % 8];
    }

    private static int leastFrom(RiverMeeting x, int p, int column, int row, int[] onward) {
        int least = -1;
        for (int side = -1; side <= 1; side += 2) {
            int along = 0;
            for (int c = column; c == column || free(x, c, row); c += side) {
                along += c == column ? 0 : x.cellOf(c, row, p);
                if (free(x, c, row + 1) && onward[c] >= 0) {
                    int cost = along + x.cellOf(c, row + 1, p) + onward[c];
                    least = least < 0 ? cost : Math.min(least, cost);
                }
            }
        }
        return least;
    }

    private static void meetsIn() {
        RiverMeeting x = new RiverMeeting();
        checks.due("meetsIn(0) at first", x.meetsIn(0), 5);
        checks.due("meetsIn(1) at first", x.meetsIn(1), 5);
        RiverMeeting y = Checks.loaded("Wwsss");
        checks.due("meetsIn(0), other below", y.meetsIn(0), 6);
        checks.due("meetsIn(1), other above its head", y.meetsIn(1), -1);
        RiverMeeting dam = Checks.loaded("Wd30");
        checks.due("meetsIn(0) round a dam is none", dam.meetsIn(0), -1);
        checks.due("meetsIn(1) round a dam is none", dam.meetsIn(1), -1);
        dam.step(0);
        checks.due("meetsIn(0) below the dam", dam.meetsIn(0), 6);
        RiverMeeting shut = Checks.loaded("Wwwswd02wd12wd77se");
        checks.due("meetsIn(0) beside", shut.meetsIn(0), 1);
        checks.due("meetsIn(1) of (2, 1) to (1, 1)", shut.meetsIn(1), 1);
        RiverMeeting met = Checks.loaded("Wewewe");
        checks.due("meetsIn(0) of rivers that met", met.meetsIn(0), 0);
        checks.due("meetsIn(1) of rivers that met", met.meetsIn(1), 0);
        RiverMeeting behind = Checks.loaded("Wewewd77se");
        checks.due("met behind the head of 1", behind.about(5) * 100 + behind.playerOf(1, 1), 412);
        checks.due("meetsIn(0) of rivers that met", behind.meetsIn(0), 0);
        checks.due("meetsIn(1) of rivers that met", behind.meetsIn(1), 0);
        RiverMeeting over = Checks.loaded("W" + "s".repeat(14) + "we" + "f".repeat(64));
        checks.due("meetsIn(0) of corners", over.meetsIn(0), -1);
    }

    private static void leastWished() {
        for (String text : GAMES) {
            leastWished(text, Checks.loaded(text));
        }
        // where they met is no such cell, also if it would be the dearest one
        for (int seed = 0; seed < 2000; seed++) {
            RiverMeeting x = new RiverMeeting();
            x.game(seed);
            for (int i = 0; i < 5; i++) {
                x.step(1 + i % 2);
            }
            if (Checks.cost(seed, 0, 4) + Checks.cost(seed, 1, 4) > 16) {
                leastWished("the met rivers of " + seed, x);
            }
        }
    }

    private static void leastWished(String where, RiverMeeting x) {
        boolean[][] reached = {reach(x, 0), reach(x, 1)};
        int due = -1;
        int greatest = -1;
        for (int cell = 0; cell < 64; cell++) {
            int both = x.cellOf(cell % 8, cell / 8, 0) + x.cellOf(cell % 8, cell / 8, 1);
            if (reached[0][cell] && reached[1][cell] && both > greatest) {
                due = cell;
                greatest = both;
            }
        }
        checks.due("leastWished() in " + where, x.leastWished(), due);
    }

    private static boolean[] reach(RiverMeeting x, int p) {
        boolean[] reached = new boolean[64];
        reached[x.playerOf(p, 1)] = true;
        boolean[] free = new boolean[64];
        for (int round = 0; round < 64; round++) {
            for (int cell = 0; cell < 64; cell++) {
                if (!free(x, cell % 8, cell / 8)) {
                    continue;
                }
                boolean here = cell >= 8 && reached[cell - 8]
                        || cell % 8 > 0 && reached[cell - 1]
                        || cell % 8 < 7 && reached[cell + 1];
                if (here) {
                    reached[cell] = true;
                    free[cell] = true;
                }
            }
        }
        return free;
    }

    private static void leastWishedByHand() {
        // both in the row 7 with (2, 7) to (5, 7) between them
        RiverMeeting x = Checks.loaded("W" + "s".repeat(14));
        int due = -1;
        int greatest = -1;
        for (int cell = 58; cell < 62; cell++) {
            int both = Checks.cost(0, 0, cell) + Checks.cost(0, 1, cell);
            if (both > greatest) {
                due = cell;
                greatest = both;
            }
        }
        checks.due("leastWished() between", x.leastWished(), due);
        RiverMeeting corners = Checks.loaded("W" + "s".repeat(14) + "we");
        checks.due("leastWished() of corners", corners.leastWished(), -1);
        RiverMeeting row = Checks.loaded("W" + "s".repeat(14) + "eweww");
        checks.due("leastWished() with nothing between", row.leastWished(), -1);
    }

    private static void best() {
        for (String text : GAMES) {
            RiverMeeting x = Checks.loaded(text);
            int p = x.about(2);
            int due = -1;
            int least = Integer.MAX_VALUE;
            for (int direction = 0; direction < 3 && p >= 0; direction++) {
                if (x.why(direction) != 0) {
                    continue;
                }
                int head = x.playerOf(p, 1);
                int cell = direction == 0 ? head + 8 : direction == 1 ? head + 1 : head - 1;
                int cost = x.cellOf(cell % 8, cell / 8, p);
                int onward = leastDown(x, p, cell);
                int price = onward < 0 ? 1000 : cost + onward;
                if (x.cellOf(cell % 8, cell / 8, 2) != 0) {
                    price = x.setting(1) * cost;
                }
                if (price < least) {
                    due = direction;
                    least = price;
                }
            }
            checks.due("best() in " + text, x.best(), due);
        }
        checks.due("best() of a game that is over", Checks.loaded("Wewewe").best(), -1);
        checks.due("best() without a step", Checks.loaded("Wd01sws").best(), -1);
        RiverMeeting over = Checks.loaded("W" + "s".repeat(14) + "we" + "f".repeat(64));
        checks.due("best() of a drawn game", over.best(), -1);
    }

    /** One that meets costs the setting times the cell, and nothing more. */
    private static void bestThatMeets() {
        for (int seed = 0; seed < 60; seed++) {
            for (int factor = 1; factor <= 9; factor += 2) {
                RiverMeeting x = new RiverMeeting();
                x.game(seed);
                x.set(1, factor);
                for (int i = 0; i < 4; i++) {
                    x.step(1 + i % 2);
                }
                int south = Checks.cost(seed, 0, 11) + leastDown(x, 0, 11);
                int east = factor * Checks.cost(seed, 0, 4);
                checks.due("best() beside the other river", x.best(), south <= east ? 0 : 1);
            }
        }
    }

    private static void bestWithoutAWay() {
        for (int seed = 0; seed < 40; seed++) {
            // 1 in (5, 1): south is a dam, east leads nowhere, west meets 0 in (4, 1)
            RiverMeeting x = begun(seed, "d07wd17sed72ed62ed52s");
            x.set(1, 9);
            checks.due("heads", 100 * x.playerOf(0, 1) + x.playerOf(1, 1), 1213);
            checks.due("turn of 1", x.about(2), 1);
            checks.due("why(0)", x.why(0), 2);
            checks.due("why(1)", x.why(1), 0);
            checks.due("no way to the sea", x.cheapest(1, 0), -1);
            checks.due("one that meets comes before one that leads nowhere", x.best(), 2);
            // 0 in (2, 6) over a row of dams, beside the river of 1: both ways lead nowhere
            RiverMeeting y = begun(seed, "ed27d07d47d17d57d37sssssssssssss");
            checks.due("heads", 100 * y.playerOf(0, 1) + y.playerOf(1, 1), 5062);
            checks.due("turn of 0", y.about(2), 0);
            checks.due("no way to the sea", y.cheapest(0, 0), -1);
            checks.due("why(0)", y.why(0), 2);
            checks.due("why(1)", y.why(1), 0);
            checks.due("why(2)", y.why(2), 0);
            checks.due("the lowest of steps that lead nowhere", y.best(), 1);
        }
    }

    private static RiverMeeting begun(int seed, String commands) {
        return Checks.loaded("Wn" + seed / 10 + seed % 10 + commands);
    }

    private static void wrongInputs() {
        RiverMeeting x = new RiverMeeting();
        int[] odd = {-1, 8, Integer.MIN_VALUE, Integer.MAX_VALUE};
        for (int v : odd) {
            checks.throwsArgument("why(" + v + ")", () -> x.why(v));
            checks.throwsIndex("whyDam(" + v + ", 0)", () -> x.whyDam(v, 0));
            checks.throwsIndex("whyDam(0, " + v + ")", () -> x.whyDam(0, v));
            checks.throwsIndex("cheapest(" + v + ", 0)", () -> x.cheapest(v, 0));
            checks.throwsIndex("cheapest(" + v + ", 2)", () -> x.cheapest(v, 2));
            checks.throwsArgument("cheapest(1, " + v + ")", () -> x.cheapest(1, v));
            checks.throwsIndex("meetsIn(" + v + ")", () -> x.meetsIn(v));
        }
        checks.throwsArgument("why(3)", () -> x.why(3));
        checks.throwsIndex("cheapest(2, 0)", () -> x.cheapest(2, 0));
        checks.throwsArgument("cheapest(0, 2)", () -> x.cheapest(0, 2));
        checks.throwsIndex("meetsIn(2)", () -> x.meetsIn(2));
        RiverMeeting met = Checks.loaded("Wewewe");
        checks.throwsArgument("why(3) of a game that is over", () -> met.why(3));
        checks.throwsIndex("whyDam(8, 8) of a game that is over", () -> met.whyDam(8, 8));
        checks.throwsIndex("meetsIn(2) of a game that is over", () -> met.meetsIn(2));
    }

    private static void changeNothing() {
        for (String text : GAMES) {
            RiverMeeting x = Checks.loaded(text);
            String before = Checks.told(x);
            for (int cell = 0; cell < 64; cell++) {
                x.whyDam(cell % 8, cell / 8);
            }
            for (int k = 0; k < 3; k++) {
                x.why(k);
                x.cheapest(k % 2, 0);
                x.cheapest(k % 2, 1);
                x.meetsIn(k % 2);
            }
            x.leastWished();
            x.best();
            checks.same("asking in " + text, before, x);
            checks.throwsState("undo() after asking", x::undo);
        }
    }
}
