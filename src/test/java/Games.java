import java.math.BigInteger;

/** Objects that several tests need, and the costs of fields. */
final class Games {
    /** The rivers meet in (4, 0), the head of the player 1, with the turn 5. */
    static final String MET = "ewewe";

    /** The player 0 is in (0, 0) over a dam of its own and can make no step. */
    static final String STUCK = "d01sws";

    /** Both rivers lie in corners of the row 7, (0, 7) and (7, 7), and can make no step. */
    static final String CORNERS = "s".repeat(14) + "we";

    /** 79 turns, then a flood of the player 1 is the last one. */
    static final String BEFORE_LAST_FLOOD = CORNERS + "f".repeat(63);

    static final String DRAWN = BEFORE_LAST_FLOOD + "f";

    /** 79 turns, then a step west of the player 1 to (1, 7) meets the other river. */
    static final String BEFORE_LAST_MEETING = beside("swwwwseeeeeswwwwwseeeeeswwwwwseeeeswwww");

    /** 79 turns, then a step west of the player 1 to (3, 7) meets nothing. */
    static final String BEFORE_LAST_STEP = beside("swwwwseeeeeswwwwwseeeeeswwwwwseeeeeswww");

    /**
     * The player 0 is in (1, 1) with dams south, its own river west, and east of it the river of
     * the player 1, whose head is in (2, 1); it is the turn of the player 1.
     */
    static final String SIDE_BY_SIDE = "wwswd02wd12wd77se";

    /** Both rivers lie in (1, 7) and (6, 7); it is the turn of the player 0. */
    static final String ROW_7 = "s".repeat(14);

    /** The rivers end in (1, 7) and (3, 7): (2, 7) alone lies between them. */
    static final String ONE_BETWEEN = "swswsw" + "s".repeat(8) + "d00sd70sd77s";

    /** Those in (1, 7) and (4, 7): (2, 7) and (3, 7) lie between them. */
    static final String TWO_BETWEEN = "swsw" + "s".repeat(10) + "d00sd70s";

    /** Moves that are possible on any field. */
    static final String[] MANY = {
        "", "s", "ewew", "ewewd77s", MET, "ewewd77se", STUCK, STUCK + "f", SIDE_BY_SIDE,
        "wwswewd22sd77se", "s".repeat(6), "s".repeat(11), "s".repeat(12), "s".repeat(13), ROW_7,
        ROW_7 + "e", CORNERS, ONE_BETWEEN, TWO_BETWEEN, "we", "d21d51", "d11d61", "v003d21d66",
        "v002d22", "d23d53d24d54d25d55", "seessd34d43", "d13d33d24d44sees", "d12sd21sd01ss",
        "esd00wd07wd17wew", "v109d02sd11swss", "d31d41d32d42d33d43",
        "d26sd36sd46s" + "s".repeat(6), "v101ewew", "v109ewew"
    };

    private Games() {
    }

    /** The player 0 goes down to a corner and lets floods come while the player 1 winds down. */
    private static String beside(String ofSecond) {
        String ofFirst = "sssssssw" + "f".repeat(32);
        StringBuilder moves = new StringBuilder();
        for (int i = 0; i < ofSecond.length(); i++) {
            moves.append(ofFirst.charAt(i)).append(ofSecond.charAt(i));
        }
        return moves.append('f').toString();
    }

    /** A new object on which the moves are made by calls, all of which must be possible. */
    static RiverMeeting played(String moves) {
        RiverMeeting x = new RiverMeeting();
        play(x, moves);
        return x;
    }

    /** A new object with a second game of that seed, in which the moves are made. */
    static RiverMeeting ofSeed(long seed, String moves) {
        RiverMeeting x = new RiverMeeting();
        x.game(seed);
        play(x, moves);
        return x;
    }

    /** The moves have the form of the commands of a text; blanks between them are skipped. */
    static void play(RiverMeeting x, String moves) {
        int at = 0;
        while (at < moves.length()) {
            int size = "nd".indexOf(moves.charAt(at)) >= 0 ? 3 : moves.charAt(at) == 'v' ? 4 : 1;
            move(x, moves.substring(at, at + size));
            at += size;
        }
    }

    private static void move(RiverMeeting x, String move) {
        int refused = 0;
        switch (move.charAt(0)) {
            case 'n':
                x.game(Integer.parseInt(move.substring(1)));
                break;
            case 'd':
                refused = x.dam(move.charAt(1) - '0', move.charAt(2) - '0');
                break;
            case 'v':
                x.set(move.charAt(1) - '0', Integer.parseInt(move.substring(2)));
                break;
            case 'f':
                x.flood();
                break;
            case 'b':
                refused = x.step(x.best());
                break;
            case ' ':
                break;
            default:
                refused = x.step("sew".indexOf(move.charAt(0)));
        }
        if (refused != 0) {
            throw new IllegalStateException("the move " + move + " of a set-up is refused");
        }
    }

    /** Puts the text into the empty buffer of the object. */
    static RiverMeeting written(RiverMeeting x, String text) {
        for (int i = 0; i < text.length(); i++) {
            x.append(text.charAt(i));
        }
        return x;
    }

    static RiverMeeting loaded(String text) {
        RiverMeeting x = written(new RiverMeeting(), text);
        x.load();
        return x;
    }

    /** The cost of a cell, counted with numbers that do not overflow. */
    static int cost(long seed, int p, int cell) {
        BigInteger range = BigInteger.ONE.shiftLeft(64);
        BigInteger x = BigInteger.valueOf(seed);
        for (int i = 0; i <= cell; i++) {
            x = x.multiply(BigInteger.valueOf(6364136223846793005L))
                    .add(BigInteger.valueOf(1442695040888963407L)).mod(range);
        }
        int r = x.shiftRight(33).intValueExact();
        return p == 0 ? r % 10 : r / 10 % 10;
    }

    /** The costs of several cells together. */
    static int costs(long seed, int p, int... cells) {
        int sum = 0;
        for (int cell : cells) {
            sum += cost(seed, p, cell);
        }
        return sum;
    }
}
