import java.util.Set;

/**
 * One object of the class in a test. Calls are written as in the document; LEAST and MOST stand for the
 * ends of int. What is refused, and what only tells something, must leave the digest as it was.
 */
final class Play {
    private static final int MOST_CALLS = 512;
    private static final Set<String> CHANGING = Set.of("type", "clearText", "newGame", "setWild", "deal", "roll",
            "claim", "doubt", "callExact", "setMatrix", "undo");

    private final CupClaims table = new CupClaims();
    private int calls = 0;

    /**
     * A game in which the players have so many dice, 0 for one who is out. Player 0 loses dice as the last
     * one, and so begins the next round, if not out or with all dice.
     */
    static Play withDice(boolean wild, int... dice) {
        Play play = new Play();
        play.ask("newGame(" + dice.length + ")");
        play.ask("setWild(" + wild + ")");
        int winner = onlyOneIn(dice);
        if (winner >= 0) {
            play.loseAllBut(dice[winner], winner);
        }
        for (int p = dice.length - 1; p >= 0; p--) {
            play.loseAllBut(dice[p], p);
        }
        return play;
    }

    private static int onlyOneIn(int[] dice) {
        int only = -1;
        for (int p = 0; p < dice.length; p++) {
            if (dice[p] > 0) {
                if (only >= 0) {
                    return -1;
                }
                only = p;
            }
        }
        return only;
    }

    private void loseAllBut(int dice, int player) {
        for (long left = ask("player(" + player + ", 0)"); left > dice; left--) {
            lose(player);
        }
        Bounds.due("the dice of player " + player, ask("player(" + player + ", 0)"), dice);
    }

    /** Dealt cups, an empty one for each player who is out: "123//6" is a game of three players. */
    static Play dealt(boolean wild, String cups) {
        String[] each = cups.split("/", -1);
        int[] dice = new int[each.length];
        for (int p = 0; p < each.length; p++) {
            dice[p] = each[p].length();
        }
        Play play = withDice(wild, dice);
        play.deal(cups.replaceAll("/+", "/").replaceAll("^/|/$", ""));
        return play;
    }

    static Play withText(String text) {
        Play play = new Play();
        play.write(text);
        return play;
    }

    static Play withMatrix(String text) {
        Play play = withText(text);
        Bounds.due("setMatrix() of '" + text + "' is no error", play.ask("setMatrix()") > 0 ? 1 : 0, 1);
        return play;
    }

    void write(String text) {
        ask("clearText()");
        for (int i = 0; i < text.length(); i++) {
            Bounds.due("the length of '" + text + "'", ask("type(" + (int) text.charAt(i) + ")"), i + 1);
        }
    }

    void deal(String text) {
        write(text);
        Bounds.due("deal() of '" + text + "'", ask("deal()"), text.replaceAll("[ /]", "").length());
    }

    /** In a round of its own, others claim until it is the player's turn, who claims what is wrong. */
    void lose(int player) {
        ask("roll(1)");
        for (int n = 1; n < 6 && ask("count(2)") != player; n++) {
            ask("claim(" + n + ", 2)");
        }
        ask(greatestClaim());
        Bounds.due("doubt(), for player " + player + " to lose a die", ask("doubt()"), player);
    }

    /** The claim that none can follow. */
    String greatestClaim() {
        return ask("count(7)") == 1 ? "claim(25, 1)" : "claim(25, 6)";
    }

    /** Makes changes that differ from each other: each one makes the next number the only entry of the matrix. */
    void change(int first, int last) {
        for (int entry = first; entry <= last; entry++) {
            write(String.valueOf(entry));
            Bounds.due("setMatrix() of " + entry, ask("setMatrix()"), 1);
        }
    }

    void due(String call, long want) {
        boolean isError = want == Bounds.BAD || want == Bounds.STATE || want == Bounds.FULL;
        boolean changes = CHANGING.contains(nameOf(call)) && !isError;
        long before = changes ? 0 : ask("digest()");
        Bounds.due(call, ask(call), want);
        if (!changes && ask("digest()") != before) {
            Bounds.tell(call + " changed something");
        }
    }

    /** A row of calls with one answer for all. */
    void dueForAll(long want, String... row) {
        for (String call : row) {
            due(call, want);
        }
    }

    /** The numbers of a fraction; the call has its last argument still to come. */
    void dueFraction(String callAhead, long numerator, long denominator) {
        due(callAhead + "false)", numerator);
        due(callAhead + "true)", denominator);
    }

    /** Numerator and denominator of the chance, then of the exact chance. */
    void dueChance(String claim, long... want) {
        for (int what = 0; what < 4; what++) {
            due("chance(" + claim + ", " + what + ")", want[what]);
        }
    }

    /** The digest, worked out from what the object tells, the text apart, which it does not tell. */
    void dueDigest(String text) {
        long h = 131;
        for (int what = 0; what <= 13; what++) {
            h = 31 * h + ask("count(" + what + ")");
        }
        boolean dealt = ask("count(3)") == 1;
        long players = ask("count(0)");
        for (int p = 0; p < players; p++) {
            for (int what = 0; what <= 2; what++) {
                h = 31 * h + ask("player(" + p + ", " + what + ")");
            }
            long dice = dealt ? ask("player(" + p + ", 0)") : 0;
            for (int i = 0; i < dice; i++) {
                h = 31 * h + ask("die(" + p + ", " + i + ")");
            }
        }
        h = dealt ? withChances(h, players) : h;
        h = withMatrixTold(h);
        for (int i = 0; i < text.length(); i++) {
            h = 31 * h + text.charAt(i);
        }
        Bounds.due("digest()", ask("digest()"), h);
    }

    private long withChances(long start, long players) {
        long h = start;
        for (int p = 0; p < players; p++) {
            if (ask("player(" + p + ", 0)") > 0) {
                h = 31 * h + ask("bestClaim(" + p + ")");
                h = 31 * h + ask("chance(" + p + ", 3, 4, 0)");
                h = 31 * h + ask("chance(" + p + ", 3, 4, 1)");
            }
        }
        return 31 * h + ask("advice()");
    }

    private long withMatrixTold(long start) {
        long h = start;
        long rows = ask("count(10)");
        long columns = ask("count(11)");
        for (int row = 0; row < rows; row++) {
            for (int column = 0; column < columns; column++) {
                h = 31 * h + ask("entry(" + row + ", " + column + ")");
            }
        }
        h = 31 * (31 * h + ask("value(false)")) + ask("value(true)");
        for (int i = 0; i < rows; i++) {
            h = 31 * (31 * h + ask("share(false, " + i + ", false)")) + ask("share(false, " + i + ", true)");
        }
        for (int i = 0; i < columns; i++) {
            h = 31 * (31 * h + ask("share(true, " + i + ", false)")) + ask("share(true, " + i + ", true)");
        }
        return h;
    }

    private static String nameOf(String call) {
        return call.substring(0, call.indexOf('('));
    }

    long ask(String call) {
        calls++;
        if (calls == MOST_CALLS + 1) {
            Bounds.tell("the test makes more calls than are promised: " + call);
        }
        String inside = call.substring(call.indexOf('(') + 1, call.length() - 1);
        String[] a = inside.split(", ");
        return switch (nameOf(call)) {
            case "type" -> table.type(number(a[0]));
            case "clearText" -> table.clearText();
            case "fault" -> table.fault(truth(a[0]));
            case "newGame" -> table.newGame(number(a[0]));
            case "setWild" -> table.setWild(truth(a[0]));
            case "deal" -> table.deal();
            case "roll" -> table.roll(number(a[0]));
            case "claim" -> table.claim(number(a[0]), number(a[1]));
            case "doubt" -> table.doubt();
            case "callExact" -> table.callExact();
            case "setMatrix" -> table.setMatrix();
            case "undo" -> table.undo();
            default -> told(nameOf(call), a);
        };
    }

    private long told(String name, String[] a) {
        return switch (name) {
            case "player" -> table.player(number(a[0]), number(a[1]));
            case "die" -> table.die(number(a[0]), number(a[1]));
            case "counting" -> table.counting(number(a[0]), number(a[1]));
            case "rank" -> table.rank(number(a[0]), number(a[1]));
            case "chance" -> table.chance(number(a[0]), number(a[1]), number(a[2]), number(a[3]));
            case "chanceBits" -> table.chanceBits(number(a[0]), number(a[1]), number(a[2]));
            case "bestClaim" -> table.bestClaim(number(a[0]));
            case "advice" -> table.advice();
            case "entry" -> table.entry(number(a[0]), number(a[1]));
            case "value" -> table.value(truth(a[0]));
            case "share" -> table.share(truth(a[0]), number(a[1]), truth(a[2]));
            case "saddle" -> table.saddle(number(a[0]), number(a[1]));
            case "count" -> table.count(number(a[0]));
            case "digest" -> table.digest();
            default -> throw new IllegalArgumentException(name);
        };
    }

    private static int number(String argument) {
        return switch (argument) {
            case "LEAST" -> Integer.MIN_VALUE;
            case "MOST" -> Integer.MAX_VALUE;
            default -> Integer.parseInt(argument);
        };
    }

    private static boolean truth(String argument) {
        if (!argument.equals("true") && !argument.equals("false")) {
            throw new IllegalArgumentException(argument);
        }
        return argument.equals("true");
    }
}
