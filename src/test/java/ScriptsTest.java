/** The promise 23: runScript. */
public final class ScriptsTest {
    private static final Checks checks = new Checks("scripts");

    private static final String PAID_99 = "s".repeat(14) + "we" + "f".repeat(63);

    private static final String[] GAMES = {
        "", "wssd12", Games.STUCK, "d30d40d31d41d32d42", "v040v109ewew", Games.MET, Games.DRAWN,
        PAID_99, Games.BEFORE_LAST_MEETING, "d01sw", "n03sess"
    };

    public static void main(String[] args) {
        numbersOfCommands();
        numbersOfDigits();
        eachGroup();
        whatPlayersHavePaid();
        whatRiversHave();
        whatAGameIs();
        bestSteps();
        theFirstCommandThatFails();
        zerosBeforeIt();
        oneCommandBehindTheOther();
        manyScripts();
        changesNothing();
        checks.end();
    }

    /** IllegalArgumentException if n is out of range: 1 to 4. */
    private static void numbersOfCommands() {
        RiverMeeting x = new RiverMeeting();
        int[] wrong = {0, 5, -1, 6, Integer.MIN_VALUE, Integer.MAX_VALUE};
        for (int n : wrong) {
            checks.throwsArgument("runScript(" + n + ", 0)", () -> x.runScript(n, 0));
            checks.throwsArgument("runScript(" + n + ", 1000)", () -> x.runScript(n, 1000));
            checks.throwsArgument("runScript(" + n + ", -1)", () -> x.runScript(n, -1));
        }
        long script = 0;
        for (int n = 1; n <= 4; n++) {
            script = 10000 * script + 1000;
            checks.due("runScript(" + n + ", " + script + ")", x.runScript(n, script), -1);
        }
    }

    /** Or if script is negative or has more than 4 * n digits. */
    private static void numbersOfDigits() {
        RiverMeeting x = new RiverMeeting();
        long limit = 1;
        for (int n = 1; n <= 4; n++) {
            int commands = n;
            limit *= 10000;
            long[] wrong = {
                limit, limit + 1, 1000 * limit, -1, -1000, -limit, Long.MIN_VALUE, Long.MAX_VALUE,
                Long.MIN_VALUE + 1, 10000000000000000L, 1000000000000000000L
            };
            for (long script : wrong) {
                checks.throwsArgument("runScript(" + n + ", " + script + ")",
                        () -> x.runScript(commands, script));
            }
            checks.due("the greatest script of " + n, x.runScript(n, limit - 1), 0);
            checks.due("the script 0 of " + n, x.runScript(n, 0), 0);
            checks.due("the script 1 of " + n, x.runScript(n, 1), 0);
            checks.due("a script of 4 * n digits", x.runScript(n, limit / 10), n == 1 ? -1 : 1);
        }
    }

    /** Does a group by calls, and tells whether it succeeds by what the document says of it. */
    private static boolean succeeds(RiverMeeting x, int group) {
        int d2 = group / 100 % 10;
        int d3 = group / 10 % 10;
        int d4 = group % 10;
        try {
            switch (group / 1000) {
                case 1:
                    return d2 == 0 && x.game(group % 100) > 0;
                case 2:
                    return d2 == 0 && d3 == 0 && x.step(d4) == 0;
                case 3:
                    return d2 == 0 && x.dam(d3, d4) == 0;
                case 4:
                    return group == 4000 && x.flood() >= 0;
                case 5:
                    return x.set(d2, group % 100) > 0;
                case 6:
                    return d2 == 0 && d3 == 0 && stepsBest(x, d4);
                case 7:
                    return x.playerOf(d2, 2) <= group % 100;
                case 8:
                    return d2 == 0 && d3 == 0 && x.about(1) == d4;
                case 9:
                    return x.playerOf(d2, 0) >= group % 100;
                default:
                    return false;
            }
        } catch (RuntimeException e) {
            return false;
        }
    }

    private static boolean stepsBest(RiverMeeting x, int times) {
        for (int i = 0; i < times; i++) {
            int best = x.best();
            if (best == -1) {
                return false;
            }
            x.step(best);
        }
        return true;
    }

    /** All 10000 groups, in each game: also those with another digit where a 0 is written. */
    private static void eachGroup() {
        for (String moves : GAMES) {
            RiverMeeting x = Games.played(moves);
            for (int group = 0; group < 10000; group++) {
                if (group % 200 == 0) {
                    x = Games.played(moves);
                }
                boolean due = succeeds(Games.played(moves), group);
                checks.due("runScript(1, " + group + ") behind " + moves, x.runScript(1, group),
                        due ? -1 : 0);
            }
        }
    }

    private static void one(String moves, int group, boolean due) {
        checks.due("runScript(1, " + group + ") behind " + moves,
                Games.played(moves).runScript(1, group), due ? -1 : 0);
    }

    /** 7 p n n: succeeds if the player p has paid at most nn in this game. */
    private static void whatPlayersHavePaid() {
        int nines = 0;
        for (int seed = 0; seed < 40; seed++) {
            String begin = "n" + seed / 10 + seed % 10;
            String moves = begin + "sssses";
            int[] paid = {Games.costs(seed, 0, 9, 17, 18), Games.costs(seed, 1, 14, 22, 30)};
            for (int p = 0; p < 2; p++) {
                int group = 7000 + 100 * p;
                one(moves, group + paid[p], true);
                one(moves, group + paid[p] + 1, true);
                if (paid[p] > 0) {
                    one(moves, group + paid[p] - 1, false);
                }
                one(moves + begin, group, true);
            }
            nines += paid[0] > 9 ? 1 : 0;
        }
        checks.seen("a number of two digits that is paid", nines);
        RiverMeeting dear = Games.played(PAID_99);
        checks.isTrue("0 has paid more than 99", dear.playerOf(0, 2) > 99);
        checks.isTrue("1 has paid more than 99", dear.playerOf(1, 2) > 99);
        one(PAID_99, 7099, false);
        one(PAID_99, 7199, false);
        one("", 7000, true);
        one("", 7100, true);
        one("", 7200, false);
        one("", 7999, false);
    }

    /** 9 p n n: succeeds if the river of the player p has at least nn cells. */
    private static void whatRiversHave() {
        one("", 9000, true);
        one("", 9001, true);
        one("", 9002, false);
        one("", 9100, true);
        one("", 9101, true);
        one("", 9102, false);
        one("", 9200, false);
        one("", 9900, false);
        one("sssss", 9004, true);
        one("sssss", 9005, false);
        one("sssss", 9103, true);
        one("sssss", 9104, false);
        one(Games.BEFORE_LAST_MEETING, 9140, true);
        one(Games.BEFORE_LAST_MEETING, 9141, false);
        one(Games.BEFORE_LAST_MEETING, 9199, false);
    }

    /** 8 0 0 s: succeeds if about(1) is s. */
    private static void whatAGameIs() {
        String[] games = {"", Games.MET, Games.DRAWN, PAID_99, Games.BEFORE_LAST_MEETING + "w"};
        int[] due = {1, 2, 3, 1, 2};
        for (int i = 0; i < games.length; i++) {
            for (int s = 0; s <= 9; s++) {
                one(games[i], 8000 + s, s == due[i]);
            }
        }
    }

    /** 6 0 0 n: step(best()), n times; n as 0 always succeeds. */
    private static void bestSteps() {
        String[] without = {Games.STUCK, Games.MET, Games.DRAWN, Games.CORNERS};
        for (String moves : without) {
            one(moves, 6000, true);
            one(moves, 6001, false);
            one(moves, 6009, false);
        }
        one("", 6009, true);
        one(Games.BEFORE_LAST_STEP, 6001, true);
        one(Games.BEFORE_LAST_STEP, 6002, false);
        one(Games.BEFORE_LAST_MEETING, 6001, true);
        one(Games.BEFORE_LAST_MEETING, 6002, false);
        for (int n = 0; n <= 9; n++) {
            RiverMeeting x = new RiverMeeting();
            stepsBest(x, n);
            int last = x.playerOf(0, 0);
            RiverMeeting y = new RiverMeeting();
            long script = (6000 + n) * 10000L + 9000 + last;
            checks.due(n + " best steps", y.runScript(2, script), -1);
            checks.due(n + " best steps, not more", y.runScript(2, script + 1), 1);
        }
    }

    /** Returns the index, from 0, of the first command that fails; NONE if all succeed. */
    private static void theFirstCommandThatFails() {
        RiverMeeting x = new RiverMeeting();
        checks.due("the first one", x.runScript(4, 4000200020002000L), 0);
        checks.due("the second one", x.runScript(4, 2000400020002000L), 1);
        checks.due("the third one", x.runScript(4, 2000200040002000L), 2);
        checks.due("the fourth one", x.runScript(4, 2000200020004000L), 3);
        checks.due("none", x.runScript(4, 2000200020002000L), -1);
        checks.due("the second and the fourth one", x.runScript(4, 2000400020004000L), 1);
        checks.due("all", x.runScript(4, 4000400040004000L), 0);
        checks.due("the last one of two", x.runScript(2, 20004000L), 1);
        checks.due("the last one of three", x.runScript(3, 200020004000L), 2);
    }

    /** With zeros before it, if it has fewer digits: a group 0 0 0 0 fails. */
    private static void zerosBeforeIt() {
        RiverMeeting x = new RiverMeeting();
        checks.due("runScript(1, 2000)", x.runScript(1, 2000), -1);
        checks.due("runScript(2, 2000)", x.runScript(2, 2000), 0);
        checks.due("runScript(4, 200020002000)", x.runScript(4, 200020002000L), 0);
        checks.due("runScript(3, 200020002000)", x.runScript(3, 200020002000L), -1);
        checks.due("runScript(1, 999)", x.runScript(1, 999), 0);
        checks.due("runScript(1, 1)", x.runScript(1, 1), 0);
        checks.due("runScript(2, 10000000)", x.runScript(2, 10000000), 1);
    }

    /** On a copy of the state, on which each command finds what those before it did. */
    private static void oneCommandBehindTheOther() {
        RiverMeeting x = new RiverMeeting();
        checks.due("steps", x.runScript(4, 2002200190029102L), -1);
        checks.due("a dam bars the way", x.runScript(3, 301120002000L), 2);
        checks.due("a dam elsewhere", x.runScript(3, 301220002000L), -1);
        checks.due("stuck, and flooded", x.runScript(4, 3001200020022000L), -1);
        checks.due("the flood", Games.played("d01sws").runScript(2, 40002000L), -1);
        checks.due("no flood twice", Games.played("d01sws").runScript(2, 40004000L), 1);
        checks.due("in a new game", Games.played("d33").runScript(2, 10003033L), -1);
        checks.due("not in this one", Games.played("d33").runScript(2, 80013033L), 1);
        checks.due("dams that go at once", x.runScript(4, 5001303330333033L), -1);
        checks.due("they count", Games.played("v001d33d33d33").runScript(4, 3033303330333033L), 3);
        checks.due("a meeting", Games.played("ewew").runScript(2, 20018002L), -1);
        checks.due("no meeting", Games.played("ewew").runScript(2, 20008002L), 1);
        checks.due("no step behind it", Games.played("ewew").runScript(2, 20012000L), 1);
        checks.due("a new game behind it", Games.played("ewew").runScript(3, 200110002000L), -1);
        checks.due("the last turn", Games.played(PAID_99).runScript(3, 800140008003L), -1);
        checks.due("a failed command ends the script", x.runScript(2, 40001000L), 0);
    }

    private static int byCalls(String moves, int n, long script) {
        RiverMeeting x = Games.played(moves);
        String digits = String.format("%0" + 4 * n + "d", script);
        for (int i = 0; i < n; i++) {
            if (!succeeds(x, Integer.parseInt(digits.substring(4 * i, 4 * i + 4)))) {
                return i;
            }
        }
        return -1;
    }

    private static void manyScripts() {
        int[] groups = {
            1003, 1099, 2000, 2001, 2002, 2000, 3033, 3011, 3001, 3066, 4000, 5001, 5003, 5109,
            5040, 6001, 6003, 6009, 6009, 7009, 7120, 8001, 8002, 8003, 9002, 9103, 9005, 3017
        };
        long random = 7;
        int[] ends = new int[5];
        for (String moves : GAMES) {
            for (int i = 0; i < 600; i++) {
                int n = 1 + i % 4;
                long script = 0;
                for (int k = 0; k < n; k++) {
                    random = random * 6364136223846793005L + 1442695040888963407L;
                    script = 10000 * script + groups[(int) ((random >>> 33) % groups.length)];
                }
                int due = byCalls(moves, n, script);
                ends[due + 1]++;
                checks.due("runScript(" + n + ", " + script + ") behind " + moves,
                        Games.played(moves).runScript(n, script), due);
            }
        }
        for (int end = -1; end < 4; end++) {
            checks.seen("a script that answers " + end, ends[end + 1]);
        }
    }

    /** These and all following methods up to the save slots change nothing. */
    private static void changesNothing() {
        long[] scripts = {
            1005200030775009L, 2000200020002000L, 6009600960096009L, 5001510930333044L,
            4000100010001000L, 1000400010001000L, 3010301030103010L
        };
        for (String moves : GAMES) {
            checks.alike("runScript() behind " + moves, () -> {
                RiverMeeting x = kept(moves);
                for (long script : scripts) {
                    x.runScript(4, script);
                }
                return x;
            }, () -> kept(moves));
        }
    }

    private static RiverMeeting kept(String moves) {
        RiverMeeting x = Games.played(moves);
        x.save(0);
        return Games.written(x, "Wsd33");
    }
}
