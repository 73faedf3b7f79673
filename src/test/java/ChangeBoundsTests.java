import java.math.BigInteger;
import java.util.Arrays;

/** The boundary cases of changes, errors and numbers: promises 13, 26 and 27, and what is said ahead of the promises. */
public final class ChangeBoundsTests extends Bounds {
    private static final long[] NUMBERS_AT_FIRST = {2, 2, 0, 0, NONE, NONE, NONE, 1, 0, 0, 1, 1, 0, 0,
        5, 0, 0, 5, 0, 0, 0, 0, 1, 1, 1, 1, 1};

    public static void main(String[] args) {
        changesThatChangeNothing();
        onlyChangesAreRecorded();
        atMostEightStates();
        theRingGoesRound();
        changesBehindUndo();
        eachChangeIsUndone();
        eachPartComesBack();
        theTextStays();
        nothingToUndo();
        refusedCallsLeaveTheHistory();
        severalErrors();
        noneIsNoError();
        refusedInAllStates();
        numbersAtTheirEnds();
        numbersOfClaims();
        numbersOfRounds();
        numbersOutOfRange();
        digestOfANewObject();
        digestsOfStates();
        digestWrapsAround();
        callsToTheLast();
        constants();
        end();
    }

    // ---- changes and the history

    private static void changesThatChangeNothing() {
        sentence(0, "Changes are the calls of the methods in the section \"changes\" that return no error, "
                + "also if nothing becomes different.");
        Play x = new Play();
        x.due("setWild(true)", 1);
        x.due("count(12)", 1);
        x.due("newGame(2)", 2);
        x.due("count(12)", 2);
        x.write("0");
        x.due("setMatrix()", 1);
        x.due("count(12)", 3);
        x.due("setMatrix()", 1);
        x.due("count(12)", 4);
        x.due("undo()", 3);
        x.due("undo()", 2);
        x.due("undo()", 1);
        x.due("undo()", 0);
        x.due("undo()", STATE);
    }

    private static void onlyChangesAreRecorded() {
        sentence(0, "The text does not belong to a state.");
        Play x = new Play();
        x.dueForAll(0, "clearText()", "fault(true)", "count(12)");
        x.due("type(49)", 1);
        x.due("count(12)", 0);
        x.due("undo()", STATE);
        x.ask("roll(4)");
        x.due("count(12)", 1);
        // what only tells leaves the digest as it was, and with it the number of states
        for (String call : new String[] {"fault(false)", "fault(true)", "player(0, 0)", "die(0, 0)", "counting(-1, 1)",
                "rank(1, 1)", "chance(0, 1, 1, 0)", "chanceBits(0, 1, 1)", "bestClaim(0)", "advice()", "entry(0, 0)",
                "value(true)", "share(true, 0, true)", "saddle(0, 0)", "count(12)", "digest()"}) {
            x.due(call, x.ask(call));
        }
        x.due("count(12)", 1);
    }

    private static void atMostEightStates() {
        sentence(0, "A history of at most 8 states is kept: each change records the state before it, "
                + "and when one more is recorded, the oldest one is dropped.");
        for (int changes : new int[] {0, 1, 7, 8, 9, 10, 15, 16, 17, 24, 25}) {
            Play x = new Play();
            x.change(1, changes);
            int kept = Math.min(8, changes);
            x.due("count(12)", kept);
            x.due("entry(0, 0)", changes);
            for (int left = kept - 1; left >= 0; left--) {
                x.due("undo()", left);
                x.due("count(12)", left);
                x.due("entry(0, 0)", changes - kept + left);
            }
            x.due("undo()", STATE);
            x.due("entry(0, 0)", changes - kept);
        }
    }

    private static void theRingGoesRound() {
        sentence(13, "Returns how many states are left in the history");
        Play x = new Play();
        x.change(1, 11);
        x.due("undo()", 7);
        x.due("undo()", 6);
        x.due("undo()", 5);
        x.due("entry(0, 0)", 8);
        x.change(21, 25);
        x.due("count(12)", 8);
        dueUndone(x, 24, 23, 22, 21, 8, 7, 6, 5);
        x.change(31, 38);
        dueUndone(x, 37, 36, 35, 34, 33, 32, 31, 5);
        x.change(41, 49);
        dueUndone(x, 48, 47, 46, 45, 44, 43, 42, 41);
    }

    /** The entries that come back, until no state is left. */
    private static void dueUndone(Play x, int... entries) {
        for (int i = 0; i < entries.length; i++) {
            x.due("undo()", entries.length - 1 - i);
            x.due("entry(0, 0)", entries[i]);
        }
        x.due("undo()", STATE);
    }

    private static void changesBehindUndo() {
        sentence(0, "undo() removes the latest one and restores it.");
        Play x = new Play();
        x.change(1, 3);
        x.due("undo()", 2);
        x.due("entry(0, 0)", 2);
        x.change(9, 9);
        x.due("count(12)", 3);
        dueUndone(x, 2, 1, 0);
        Play y = new Play();
        y.change(1, 8);
        for (int i = 0; i < 12; i++) {
            y.due("undo()", 7);
            y.due("entry(0, 0)", 7);
            y.change(8, 8);
            y.due("count(12)", 8);
        }
        dueUndone(y, 7, 6, 5, 4, 3, 2, 1, 0);
    }

    private static void eachChangeIsUndone() {
        sentence(13, "Restores the latest state of the history.");
        Play x = Play.dealt(true, "/12/345");
        x.ask("claim(1, 3)");
        dueUndoOf(x, "newGame(2)", "newGame(5)", "claim(1, 4)", "claim(25, 1)", "doubt()", "callExact()", "newGame(3)");
        x.ask("undo()");
        dueUndoOf(x, "setWild(false)", "setWild(true)", "claim(1, 2)", "newGame(4)");
        x.ask("undo()");
        dueUndoOf(x, "roll(0)", "roll(65535)", "deal()", "setWild(false)", "newGame(2)");
        x.write("5-6/7 8");
        dueUndoOf(x, "setMatrix()");
        Play over = Play.withDice(true, 1, 1);
        over.ask("roll(1)");
        over.ask("claim(3, 3)");
        dueUndoOf(over, "doubt()", "callExact()");
        over.due("doubt()", 0);
        over.due("count(2)", NONE);
        over.write("1-1/-1 1");
        dueUndoOf(over, "newGame(2)", "setWild(false)", "setMatrix()");
        over.due("undo()", 6);
        over.due("count(2)", 1);
        over.due("count(4)", 3);
    }

    /** Each part of a state differs from the state behind it, and comes back over two changes. */
    private static void eachPartComesBack() {
        sentence(0, "each change records the state before it");
        Play x = Play.withText("22222/33333");
        x.ask("deal()");
        x.ask("claim(5, 2)");
        x.due("callExact()", 1);
        x.deal("44444/11166");
        x.ask("claim(3, 4)");
        x.due("doubt()", 0);
        x.due("undo()", 5);
        x.due("player(0, 0)", 5);
        x.due("player(0, 1)", 0);
        x.due("player(1, 2)", 1);
        x.due("count(2)", 0);
        x.due("count(6)", 1);
        x.due("die(0, 0)", 4);
        x.due("undo()", 4);
        x.due("die(1, 4)", 6);
        x.due("undo()", 3);
        x.due("player(1, 2)", 1);
        x.due("count(8)", 1);
        x.due("undo()", 2);
        x.due("player(1, 2)", 0);
        x.due("count(8)", 0);
        x.due("count(4)", 5);
        x.due("die(0, 0)", 2);
        x.due("die(1, 4)", 3);
        x.due("counting(-1, 2)", 5);
        x.due("undo()", 1);
        x.due("die(1, 4)", 3);
    }

    private static void dueUndoOf(Play x, String... changes) {
        if (x.ask("count(12)") == 8) {
            // the digest holds the number of states, which must have room for one more
            x.ask("newGame(2)");
            x.ask("undo()");
        }
        for (String change : changes) {
            long states = x.ask("count(12)");
            long before = x.ask("digest()");
            due(change + " is no error", x.ask(change) >= 0 ? 1 : 0, 1);
            x.due("count(12)", states + 1);
            x.due("undo()", states);
            due("digest() behind undo() of " + change, x.ask("digest()"), before);
        }
    }

    private static void theTextStays() {
        sentence(0, "The text does not belong to a state.");
        Play x = Play.withText("11111/22222");
        x.ask("deal()");
        x.write("7-7");
        x.due("undo()", 0);
        x.due("count(13)", 3);
        x.due("fault(true)", NONE);
        x.dueDigest("7-7");
        x.ask("setMatrix()");
        x.write(" ".repeat(60));
        x.due("undo()", 0);
        x.due("count(13)", 60);
        x.due("type(32)", FULL);
        x.ask("newGame(5)");
        x.ask("clearText()");
        x.due("undo()", 0);
        x.due("clearText()", 0);
        x.dueDigest("");
    }

    private static void nothingToUndo() {
        sentence(13, "STATE if there is none");
        Play x = new Play();
        x.due("undo()", STATE);
        x.dueForAll(STATE, "deal()", "doubt()", "setMatrix()", "claim(1, 1)");
        x.dueForAll(BAD, "newGame(1)", "roll(65536)");
        x.due("undo()", STATE);
        x.due("newGame(2)", 2);
        x.due("undo()", 0);
        x.dueForAll(STATE, "undo()", "undo()");
        x.due("roll(1)", 10);
        x.due("undo()", 0);
        x.due("undo()", STATE);
    }

    // ---- errors

    private static void refusedCallsLeaveTheHistory() {
        sentence(0, "A call that returns an error changes nothing.");
        Play x = new Play();
        for (int entry = 1; entry <= 10; entry++) {
            x.change(entry, entry);
            x.dueForAll(STATE, "claim(1, 1)", "doubt()", "callExact()", "deal()");
            x.dueForAll(BAD, "newGame(6)", "roll(-1)", "claim(26, 1)");
        }
        x.write("");
        x.due("setMatrix()", STATE);
        dueUndone(x, 9, 8, 7, 6, 5, 4, 3, 2);
    }

    private static void severalErrors() {
        sentence(0, "If several errors apply, the one that comes first in this list is returned.");
        Play x = new Play();
        x.dueForAll(BAD, "claim(0, 1)", "claim(1, 0)", "claim(26, 1)", "claim(1, 7)");
        x.dueForAll(BAD, "chance(2, 1, 1, 0)", "chance(0, 0, 1, 0)", "chance(0, 1, 0, 0)", "chance(0, 1, 1, 4)");
        x.dueForAll(BAD, "chanceBits(2, 1, 1)", "chanceBits(0, 0, 1)", "chanceBits(0, 1, 0)", "bestClaim(2)");
        x.ask("roll(3)");
        x.dueForAll(BAD, "roll(-1)", "roll(65536)");
        x.ask("claim(25, 1)");
        x.dueForAll(BAD, "claim(26, 1)", "claim(25, 7)", "claim(0, 1)", "roll(65536)");
        x.write("1".repeat(60));
        x.dueForAll(BAD, "type(-1)", "type(128)");
        x.due("type(127)", FULL);
        Play over = Play.withDice(true, 0, 1);
        over.dueForAll(BAD, "roll(-1)", "claim(0, 1)", "bestClaim(2)", "chance(0, 1, 1, -1)", "chanceBits(0, 26, 1)");
        over.dueForAll(STATE, "roll(1)", "claim(1, 1)", "bestClaim(0)", "chance(0, 1, 1, 0)", "chanceBits(0, 25, 1)");
    }

    private static void noneIsNoError() {
        sentence(0, "NONE is no error; it means that there is no such thing, and is returned only if no error applies.");
        Play x = Play.withDice(true, 0, 2, 2);
        x.dueForAll(BAD, "die(3, 0)", "die(-1, 9)", "die(0, -1)", "die(1, -1)");
        x.dueForAll(NONE, "die(0, 0)", "die(1, 0)", "die(1, 2)", "die(1, MOST)", "count(4)", "count(5)", "count(6)");
        x.write("12/34");
        x.due("fault(false)", NONE);
        x.ask("deal()");
        x.ask("claim(25, 1)");
        x.dueForAll(NONE, "bestClaim(1)", "bestClaim(2)", "die(0, 0)", "die(1, 2)");
        x.due("bestClaim(0)", STATE);
        x.dueForAll(BAD, "bestClaim(3)", "bestClaim(-1)", "die(3, 0)", "die(1, -1)");
        x.ask("undo()");
        x.ask("newGame(2)");
        x.lose(0);
        x.due("count(2)", 0);
    }

    private static void refusedInAllStates() {
        sentence(0, "A call that returns an error changes nothing.");
        Play x = new Play();
        dueRefused(x, "claim(1, 1)", "doubt()", "callExact()", "deal()", "setMatrix()", "undo()", "advice()");
        x.ask("roll(3)");
        dueRefused(x, "roll(3)", "deal()", "doubt()", "callExact()", "setMatrix()");
        x.ask("claim(3, 3)");
        dueRefused(x, "roll(3)", "deal()", "claim(3, 3)", "claim(3, 2)", "claim(1, 1)", "setWild(true)", "setWild(false)");
        x.ask("claim(25, 1)");
        dueRefused(x, "claim(25, 1)", "claim(25, 6)", "roll(0)", "deal()", "setWild(true)", "setWild(false)");
        x.ask("doubt()");
        dueRefused(x, "claim(25, 1)", "doubt()", "callExact()", "deal()", "advice()", "bestClaim(0)");
        Play over = Play.withDice(false, 1, 0);
        over.write("1");
        dueRefused(over, "claim(1, 1)", "doubt()", "callExact()", "deal()", "roll(0)", "advice()", "bestClaim(0)");
        Play full = Play.withText("1".repeat(60));
        full.dueForAll(FULL, "type(0)", "type(49)", "type(127)");
        dueRefused(full, "setMatrix()", "deal()", "undo()");
    }

    private static void dueRefused(Play x, String... notNow) {
        x.dueForAll(STATE, notNow);
        x.dueForAll(BAD, "type(-1)", "type(128)", "newGame(1)", "newGame(6)", "roll(-1)", "roll(65536)");
        x.dueForAll(BAD, "claim(0, 1)", "claim(26, 1)", "claim(25, 0)", "claim(25, 7)");
    }

    // ---- numbers

    private static void numbersAtTheirEnds() {
        sentence(26, "0 for the number of players, 1 for that of players who are not out");
        Play x = Play.withDice(true, 0, 0, 0, 0, 1);
        x.due("count(0)", 5);
        x.due("count(1)", 1);
        x.due("count(2)", NONE);
        x.ask("newGame(5)");
        x.due("count(1)", 5);
        x.ask("newGame(2)");
        x.due("count(0)", 2);
        x.due("count(1)", 2);
        sentence(26, "2 for the player whose turn it is, or will be when dice are dealt (NONE if the game is over)");
        Play y = Play.withDice(true, 0, 0, 0, 1, 1);
        y.due("count(2)", 3);
        y.ask("roll(2)");
        y.due("count(2)", 3);
        y.ask("claim(1, 2)");
        y.due("count(2)", 4);
        sentence(26, "3 for 1 if dice are dealt, else 0");
        y.due("count(3)", 1);
        y.ask("callExact()");
        y.due("count(3)", 0);
        sentence(26, "10 for the number of rows of the matrix, 11 for that of columns");
        Play z = Play.withMatrix("1 2 3 4");
        z.due("count(10)", 1);
        z.due("count(11)", 4);
        z.write("1/2/3/4");
        z.ask("setMatrix()");
        z.due("count(10)", 4);
        z.due("count(11)", 1);
        sentence(26, "12 for that of states in the history, 13 for the length of the text");
        z.due("count(12)", 2);
        z.due("count(13)", 7);
        z.ask("clearText()");
        z.due("count(13)", 0);
        z.write("1".repeat(60));
        z.due("count(13)", 60);
    }

    private static void numbersOfClaims() {
        sentence(26, "4 for n of the present claim, 5 for its face, 6 for the player who made it (4 to 6: NONE without one)");
        Play x = new Play();
        x.ask("newGame(5)");
        x.dueForAll(NONE, "count(4)", "count(5)", "count(6)");
        x.ask("roll(2)");
        x.dueForAll(NONE, "count(4)", "count(5)", "count(6)");
        dueClaim(x, 1, 2, 0);
        dueClaim(x, 1, 6, 1);
        dueClaim(x, 1, 1, 2);
        dueClaim(x, 25, 6, 3);
        dueClaim(x, 25, 1, 4);
        x.due("count(2)", 0);
        x.ask("undo()");
        x.due("count(4)", 25);
        x.due("count(5)", 6);
        x.due("count(6)", 3);
        x.ask("callExact()");
        x.dueForAll(NONE, "count(4)", "count(5)", "count(6)");
    }

    private static void dueClaim(Play x, int n, int face, int claimant) {
        x.ask("claim(" + n + ", " + face + ")");
        x.due("count(4)", n);
        x.due("count(5)", face);
        x.due("count(6)", claimant);
    }

    private static void numbersOfRounds() {
        sentence(26, "8 for the number of rounds that have ended in this game, 9 for that of doubts that were right");
        Play x = Play.withText("22222/33333");
        dueRounds(x, 0, 0);
        x.ask("deal()");
        x.ask("claim(5, 2)");
        dueRounds(x, 0, 0);
        x.ask("callExact()");
        dueRounds(x, 1, 0);
        x.ask("deal()");
        x.ask("claim(6, 2)");
        x.ask("doubt()");
        dueRounds(x, 2, 1);
        x.ask("undo()");
        dueRounds(x, 1, 0);
        x.ask("undo()");
        x.ask("claim(5, 2)");
        x.ask("doubt()");
        dueRounds(x, 2, 0);
        x.ask("roll(1)");
        x.ask("claim(1, 1)");
        x.ask("callExact()");
        dueRounds(x, 3, 0);
        x.ask("newGame(2)");
        dueRounds(x, 0, 0);
        x.ask("undo()");
        dueRounds(x, 3, 0);
    }

    private static void dueRounds(Play x, int rounds, int rightDoubts) {
        x.due("count(8)", rounds);
        x.due("count(9)", rightDoubts);
    }

    private static void numbersOutOfRange() {
        sentence(26, "Returns the number; BAD.");
        Play x = new Play();
        x.dueForAll(BAD, "count(-1)", "count(14)", "count(15)", "count(-2)", "count(LEAST)", "count(MOST)");
        x.due("count(0)", 2);
        x.due("count(13)", 0);
        x.ask("roll(1)");
        x.ask("claim(25, 1)");
        x.dueForAll(BAD, "count(-1)", "count(14)");
        x.ask("doubt()");
        x.dueForAll(BAD, "count(-1)", "count(14)");
        Play.withDice(true, 0, 1).dueForAll(BAD, "count(-1)", "count(14)");
    }

    // ---- digests

    private static void digestOfANewObject() {
        sentence(27, "It begins with h = 131; for each of the following numbers v, in this order, h becomes 31 * h + v");
        due("digest() of a new object", new CupClaims().digest(), digest(NUMBERS_AT_FIRST));
        CupClaims x = new CupClaims();
        x.type(0);
        long[] numbers = Arrays.copyOf(NUMBERS_AT_FIRST, NUMBERS_AT_FIRST.length + 1);
        numbers[13] = 1;
        due("digest() with a byte 0", x.digest(), digest(numbers));
        x.clearText();
        x.type(127);
        numbers[numbers.length - 1] = 127;
        due("digest() with a byte 127", x.digest(), digest(numbers));
    }

    /** What wraps around in long arithmetic is what is left of the whole number, modulo 2 to the power of 64. */
    private static long digest(long... numbers) {
        BigInteger h = BigInteger.valueOf(131);
        for (long number : numbers) {
            h = h.multiply(BigInteger.valueOf(31)).add(BigInteger.valueOf(number));
        }
        return h.longValue();
    }

    private static void digestWrapsAround() {
        sentence(27, "in long arithmetic with overflow");
        CupClaims x = new CupClaims();
        String text = "-99-98-97-96/-95-94-93-92/-91-90-89-88/-87-86-85-84   ///   ";
        long[] numbers = Arrays.copyOf(NUMBERS_AT_FIRST, NUMBERS_AT_FIRST.length + 60);
        numbers[13] = 60;
        for (int i = 0; i < 60; i++) {
            x.type(text.charAt(i));
            numbers[NUMBERS_AT_FIRST.length + i] = text.charAt(i);
        }
        due("digest() with 60 bytes", x.digest(), digest(numbers));
    }

    private static void digestsOfStates() {
        sentence(27, "for each player, player(p, 0) to player(p, 2) and the faces of the dice, if they are dealt");
        Play x = new Play();
        x.dueDigest("");
        x.ask("newGame(5)");
        x.dueDigest("");
        x.ask("roll(65535)");
        x.dueDigest("");
        Play.withDice(true, 0, 0, 3).dueDigest("");
        sentence(27, "if dice are dealt, for each player who is not out bestClaim(p), and chance(p, 3, 4, 0) "
                + "and chance(p, 3, 4, 1), then advice()");
        Play.dealt(true, "/14/4/").dueDigest("14/4");
        Play y = Play.dealt(false, "4//44");
        y.ask("claim(2, 4)");
        y.dueDigest("4/44");
        y.ask("claim(25, 6)");
        y.dueDigest("4/44");
        y.ask("callExact()");
        y.dueDigest("4/44");
        sentence(27, "the entries row by row; value(false) and value(true); for each row share(false, i, false) and "
                + "share(false, i, true), for each column share(true, i, false) and share(true, i, true); the bytes of the text");
        Play z = Play.withMatrix("1-2 3/-4 5-6");
        z.dueDigest("1-2 3/-4 5-6");
        z.write("-99 99 99 98/99-99 99 99/99 99-98 99/99 99 99-97            ");
        z.ask("setMatrix()");
        z.dueDigest("-99 99 99 98/99-99 99 99/99 99-98 99/99 99 99-97            ");
    }

    // ---- the object

    private static void callsToTheLast() {
        sentence(0, "An object is used for at most 512 calls after it has been made");
        CupClaims x = new CupClaims();
        int before = 2;
        for (int call = 1; call <= 509; call++) {
            int players = 2 + call % 4;
            due("newGame() as call " + call, x.newGame(players), before);
            before = players;
        }
        due("roll(65535) as call 510", x.roll(65535), 15);
        due("undo() as call 511", x.undo(), 7);
        long[] numbers = {3, 3, 0, 0, NONE, NONE, NONE, 1, 0, 0, 1, 1, 7, 0, 5, 0, 0, 5, 0, 0, 5, 0, 0, 0, 0, 1, 1, 1, 1, 1};
        due("digest() as call 512", x.digest(), digest(numbers));
        Play undone = new Play();
        undone.change(1, 99);
        dueUndone(undone, 98, 97, 96, 95, 94, 93, 92, 91);
    }

    private static void constants() {
        sentence(0, "`BAD = -1000, STATE = -1001, FULL = -1002`: Error codes.");
        due("BAD", CupClaims.BAD, -1000);
        due("STATE", CupClaims.STATE, -1001);
        due("FULL", CupClaims.FULL, -1002);
        sentence(0, "`NONE = -1003`: There is no such thing.");
        due("NONE", CupClaims.NONE, -1003);
    }
}
