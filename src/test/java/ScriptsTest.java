/** Promises 23 and 24. */
public final class ScriptsTest {
    private static final Checks checks = new Checks("scripts");

    public static void main(String[] args) {
        scriptRanges();
        groupsOneByOne();
        groupsOfNoMeaning();
        groupsInOrder();
        groupsOfAGameThatIsOver();
        scriptsChangeNothing();
        simulateRanges();
        simulatesAsPlayed();
        simulateChangesNothing();
        checks.end();
    }

    private static void scriptRanges() {
        RiverMeeting x = new RiverMeeting();
        checks.throwsArgument("runScript(0, 0)", () -> x.runScript(0, 0));
        checks.throwsArgument("runScript(5, 0)", () -> x.runScript(5, 0));
        checks.throwsArgument("runScript(-1, 0)", () -> x.runScript(-1, 0));
        checks.throwsArgument("runScript(least, 0)", () -> x.runScript(Integer.MIN_VALUE, 0));
        checks.throwsArgument("runScript(greatest, 0)", () -> x.runScript(Integer.MAX_VALUE, 0));
        checks.throwsArgument("runScript(1, -1)", () -> x.runScript(1, -1));
        checks.throwsArgument("runScript(4, least)", () -> x.runScript(4, Long.MIN_VALUE));
        checks.throwsArgument("runScript(4, greatest)", () -> x.runScript(4, Long.MAX_VALUE));
        long limit = 1;
        for (int n = 1; n <= 4; n++) {
            int commands = n;
            limit *= 10000;
            long tooLong = limit;
            checks.throwsArgument("a script too long by 1", () -> x.runScript(commands, tooLong));
            checks.due("the greatest script", x.runScript(n, limit - 1), 0);
            checks.due("the script 0", x.runScript(n, 0), 0);
        }
    }

    private static void one(String text, int group, boolean succeeds) {
        RiverMeeting x = Checks.loaded(text);
        checks.due("runScript(1, " + group + ") behind " + text, x.runScript(1, group),
                succeeds ? -1 : 0);
    }

    private static void groupsOneByOne() {
        one("W", 1000, true);
        one("W", 1099, true);
        one("W", 2000, true);
        one("W", 2001, true);
        one("W", 2002, true);
        one("W", 2003, false);
        one("W", 2009, false);
        one("Wws", 2001, false);
        one("Wws", 2002, false);
        one("Wsd12", 2000, false);
        one("W", 3033, true);
        one("W", 3077, true);
        one("W", 3010, false);
        one("W", 3080, false);
        one("W", 3008, false);
        one("Wd30d40d31d41d32d42", 3033, false);
        one("Wd01sw", 3077, false);
        one("W", 4000, false);
        one("Wd01sws", 4000, true);
        one("W", 5001, true);
        one("W", 5040, true);
        one("W", 5000, false);
        one("W", 5041, false);
        one("W", 5101, true);
        one("W", 5109, true);
        one("W", 5100, false);
        one("W", 5110, false);
        one("W", 5201, false);
        one("W", 6000, true);
        one("W", 6001, true);
        one("W", 6009, true);
        one("Wd01sws", 6000, true);
        one("Wd01sws", 6001, false);
        one("W", 7000, true);
        one("W", 7199, true);
        one("W", 7200, false);
        one("W", 8001, true);
        one("W", 8002, false);
        one("W", 8000, false);
        one("W", 9000, true);
        one("W", 9001, true);
        one("W", 9002, false);
        one("W", 9101, true);
        one("W", 9102, false);
        one("W", 9201, false);
        one("Wsse", 9003, true);
        one("Wsse", 9004, false);
        one("Wsse", 9102, true);
        RiverMeeting paid = Checks.loaded("Wwe");
        checks.due("paid at most", paid.runScript(1, 7000 + Checks.cost(0, 0, 0)), -1);
        checks.due("paid by 1 at most", paid.runScript(1, 7100 + Checks.cost(0, 1, 7)), -1);
        checks.due("paid more", paid.runScript(1, 7000 + Checks.cost(0, 0, 0) - 1),
                Checks.cost(0, 0, 0) > 0 ? 0 : -1);
        RiverMeeting new1 = Checks.loaded("Wwen01");
        checks.due("paid in this game", new1.runScript(1, 7000), -1);
    }

    private static void groupsOfNoMeaning() {
        int[] groups = {
            0, 1, 999, 1100, 1900, 2010, 2100, 2900, 3100, 3133, 3933, 4001, 4010, 4100,
            6010, 6100, 6101, 6011, 7900, 7250, 8011, 8101, 8901, 9901, 9250
        };
        for (int group : groups) {
            one("W", group, false);
        }
        one("Wd01sws", 4001, false);
        one("Wd01sws", 4010, false);
        one("Wd01sws", 4100, false);
    }

    private static void groupsInOrder() {
        RiverMeeting x = new RiverMeeting();
        checks.due("the first one fails", x.runScript(4, 4000200020002000L), 0);
        checks.due("the second one fails", x.runScript(4, 2000400020002000L), 1);
        checks.due("the third one fails", x.runScript(4, 2000200040002000L), 2);
        checks.due("the fourth one fails", x.runScript(4, 2000200020004000L), 3);
        checks.due("none fails", x.runScript(4, 2000200020002000L), -1);
        checks.due("the steps are made on the copy", x.runScript(4, 2002200190029102L), -1);
        checks.due("zeros before it", x.runScript(2, 2000), 0);
        checks.due("the dam is built on the copy", x.runScript(3, 300120002000L), -1);
        checks.due("and then is in the way", x.runScript(3, 301120002000L), 2);
        checks.due("a dam is no step", x.runScript(4, 3011200030772000L), -1);
        checks.due("a flood on the copy", x.runScript(4, 3001200020022000L), -1);
        RiverMeeting y = Checks.loaded("Wd01sw");
        checks.due("the flood is paid", y.runScript(3, 200040007004L), 2);
        checks.due("a new game on the copy", y.runScript(3, 101720013017L), -1);
        checks.due("sets last in a new game", y.runScript(4, 5001100330333033L), -1);
        checks.due("a meeting on the copy", Checks.loaded("Wewew").runScript(2, 20018002L), -1);
        checks.due("best steps to the end", Checks.loaded("W").runScript(4, 6009600960096009L),
                bestSteps());
    }

    /** The script of four times nine best steps, made on the object itself. */
    private static int bestSteps() {
        RiverMeeting x = new RiverMeeting();
        for (int i = 0; i < 36; i++) {
            int direction = x.best();
            if (direction < 0) {
                return i / 9;
            }
            x.step(direction);
        }
        return -1;
    }

    private static void groupsOfAGameThatIsOver() {
        String met = "Wewewe";
        one(met, 1000, true);
        one(met, 2000, false);
        one(met, 3033, false);
        one(met, 4000, false);
        one(met, 5040, true);
        one(met, 6000, true);
        one(met, 6001, false);
        one(met, 7199, true);
        one(met, 8002, true);
        one(met, 8001, false);
        one(met, 9004, true);
        String drawn = "W" + "s".repeat(14) + "we" + "f".repeat(64);
        one(drawn, 8003, true);
        one(drawn, 4000, false);
        one("W" + "s".repeat(14) + "we" + "f".repeat(63), 4000, true);
        one("W" + "s".repeat(14) + "we" + "f".repeat(8), 7099, true);
        RiverMeeting x = Checks.loaded(drawn);
        checks.due("paid more than 99", x.playerOf(0, 2) > 99 ? 1 : 0, 1);
        checks.due("7 0 9 9", x.runScript(1, 7099), 0);
    }

    private static void scriptsChangeNothing() {
        RiverMeeting x = Checks.loaded("Wd33s");
        x.set(1, 5);
        x.save(0);
        String before = Checks.told(x);
        x.runScript(4, 1005200030775009L);
        x.runScript(4, 2009200920092009L);
        x.runScript(3, 301030103010L);
        checks.same("runScript()", before, x);
        checks.due("undo() of the set() alone", x.undo(), 0);
        checks.due("restore()", x.restore(0), 2);
        checks.same("restore()", before, x);
    }

    private static void simulateRanges() {
        RiverMeeting x = new RiverMeeting();
        int[] wrong = {0, 201, -1, Integer.MIN_VALUE, Integer.MAX_VALUE};
        for (int m : wrong) {
            checks.throwsArgument("simulate(5, " + m + ")", () -> x.simulate(5, m));
        }
    }

    private static void simulatesAsPlayed() {
        long[] seeds = {0, 1, 2, 3, 42, 99, 1234567, -1, -77, Long.MIN_VALUE, Long.MAX_VALUE};
        int[] turns = {1, 2, 3, 10, 50, 120, 200};
        String[] texts = {
            "W", "Wv003v105n12", "Wewewe", "Wd01sws", "Wd33bbbb", "W" + "s".repeat(14) + "we"
        };
        for (String text : texts) {
            for (long seed : seeds) {
                for (int m : turns) {
                    RiverMeeting x = Checks.loaded(text);
                    checks.due("simulate(" + seed + ", " + m + ") behind " + text,
                            x.simulate(seed, m), played(text, seed, m));
                }
            }
        }
    }

    /** The turns of the simulation, made on the object itself. */
    private static int played(String text, long seed, int m) {
        RiverMeeting x = Checks.loaded(text);
        long number = seed;
        int games = 0;
        int meetings = 0;
        for (int i = 0; i < m; i++) {
            number = number * 6364136223846793005L + 1442695040888963407L;
            int r = (int) (number >>> 33);
            int q = r / 8;
            if (x.about(1) != 1) {
                x.game(q);
                games++;
                continue;
            }
            if (x.why(0) != 0 && x.why(1) != 0 && x.why(2) != 0) {
                x.flood();
            } else if (r % 8 == 0) {
                x.dam(q % 8, q / 8 % 8);
            } else if (r % 8 <= 4) {
                x.step(q % 3);
            } else {
                x.step(x.best());
            }
            meetings += x.about(1) == 2 ? 1 : 0;
        }
        return 10000 * games + 100 * meetings + x.playerOf(0, 0) + x.playerOf(1, 0);
    }

    private static void simulateChangesNothing() {
        RiverMeeting x = Checks.loaded("Wd33s");
        x.set(1, 5);
        x.save(1);
        String before = Checks.told(x);
        int first = x.simulate(4711, 200);
        checks.same("simulate()", before, x);
        checks.due("simulate() again", x.simulate(4711, 200), first);
        checks.due("undo() of the set() alone", x.undo(), 0);
        checks.due("restore()", x.restore(1), 2);
        checks.same("restore()", before, x);
    }
}
