/** The sentences of the document that no other test is for, in the document's order. */
public final class ReadingTests extends Bounds {
    public static void main(String[] args) {
        oneGameToItsEnd();
        laterCallsAreFree();
        onesAreWildOrNot();
        allClaimsByRank();
        doubtsEndTheRound();
        exactCallsEndTheRound();
        rowsGetColumnsGive();
        argumentsOutOfRange();
        notPossibleNow();
        limits();
        bytesInOrder();
        beginsANewGame();
        rankAboveThePresentOne();
        theOneWhoseTurnItIs();
        propertiesOfPlayers();
        diceByIndex();
        countsUnderOneCupOrAll();
        ranksOfAllClaims();
        chancesOfEachPlayer();
        bestClaimsAsNumbers();
        entriesByRowAndColumn();
        numeratorsAndDenominators();
        sharesOfRowsAndColumns();
        saddlesOfPairs();
        numbersTold();
        digestsTold();
        objectsApart();
        end();
    }

    // ---- what it is

    private static void oneGameToItsEnd() {
        sentence(0, "players claim how many dice of all cups show a face, doubt claims, or call them exact; "
                + "dice are lost and won.");
        Play x = Play.withDice(true, 1, 2);
        x.deal("1/46");
        x.due("claim(1, 4)", 9);
        x.due("claim(2, 4)", 15);
        x.due("callExact()", 1);
        dueDice(x, 2, 2);
        x.deal("13/46");
        x.due("claim(2, 6)", 17);
        x.due("claim(1, 1)", STATE);
        x.due("claim(2, 1)", 24);
        x.due("doubt()", 1);
        dueDice(x, 2, 1);
        x.deal("13/4");
        x.due("claim(3, 4)", 21);
        x.due("callExact()", 0);
        dueDice(x, 1, 1);
        x.deal("3/4");
        x.due("claim(1, 2)", 7);
        x.due("doubt()", 0);
        dueDice(x, 0, 1);
        x.due("count(1)", 1);
        x.due("count(2)", NONE);
        x.dueForAll(STATE, "roll(3)", "deal()", "claim(1, 2)", "doubt()", "callExact()");
    }

    private static void dueDice(Play x, int first, int second) {
        x.due("player(0, 0)", first);
        x.due("player(1, 0)", second);
    }

    /** What they answer is free, but they answer: LANGUAGE.md, rule 7. */
    private static void laterCallsAreFree() {
        sentence(0, "An object is used for at most 512 calls after it has been made; what later calls answer is free.");
        CupClaims x = new CupClaims();
        x.newGame(5);
        for (int round = 0; round < 20000; round++) {
            x.roll(round);
            x.claim(1 + round % 25, 1 + round % 6);
            if (round % 3 == 0) {
                x.callExact();
            } else {
                x.doubt();
            }
            x.type("12 /-".charAt(round % 5));
            x.setMatrix();
            x.digest();
            if (x.count(1) == 1) {
                x.newGame(2 + round % 4);
            }
        }
        due("whether digest() answers behind 140000 calls", x.digest() == x.digest() ? 1 : 0, 1);
    }

    // ---- the game

    private static void onesAreWildOrNot() {
        sentence(0, "Ones can be wild (as they are at first) or not.");
        Play x = new Play();
        x.deal("12345/12345");
        x.due("rank(1, 1)", 12);
        x.due("counting(-1, 3)", 4);
        x.dueChance("0, 7, 3", 1, 243, 1, 243);
        sentence(6, "Makes ones wild, or not.");
        x.due("setWild(false)", 1);
        x.due("rank(1, 1)", 7);
        x.due("counting(-1, 3)", 2);
        x.dueChance("0, 6, 3", 1, 7776, 1, 7776);
        sentence(6, "whether they are wild");
        x.due("setWild(true)", 0);
        x.due("rank(1, 1)", 12);
        x.due("counting(-1, 3)", 4);
        sentence(26, "7 for 1 if ones are wild, else 0");
        x.due("count(7)", 1);
        x.due("setWild(false)", 1);
        x.due("count(7)", 0);
        x.due("undo()", 3);
        x.due("count(7)", 1);
    }

    private static void allClaimsByRank() {
        sentence(0, "A claim is a number n from 1 to 25 and a face f");
        dueAllClaims(true);
        dueAllClaims(false);
    }

    /** Each claim in its turn, and behind it the one ahead of it no more: no two have one rank. */
    private static void dueAllClaims(boolean wild) {
        sentence(0, "Claims have a rank.");
        Play x = new Play();
        x.ask("newGame(3)");
        x.ask("setWild(" + wild + ")");
        x.ask("roll(9)");
        int made = 0;
        String ahead = "claim(1, 0)";
        for (int rank = 1; rank <= 300; rank++) {
            for (int claim = 6; claim < 156; claim++) {
                int n = claim / 6;
                int face = claim % 6 + 1;
                if ((!wild ? 6 * n + face : face == 1 ? 12 * n : 6 * n + face - 1) == rank) {
                    due("the one ahead of rank " + rank, x.ask(ahead), made == 0 ? BAD : STATE);
                    ahead = "claim(" + n + ", " + face + ")";
                    x.due(ahead, rank);
                    made++;
                }
            }
        }
        due("claims made", made, 150);
        x.due("count(6)", 2);
    }

    private static void doubtsEndTheRound() {
        sentence(0, "To doubt ends the round: if the claim is right, the player who doubts loses a die, "
                + "otherwise the one who made it.");
        Play x = Play.dealt(true, "22222/33333");
        x.ask("claim(5, 2)");
        x.due("doubt()", 1);
        dueRoundEnded(x, 1, 0);
        x.deal("22222/3333");
        x.ask("claim(5, 3)");
        x.due("doubt()", 1);
        dueRoundEnded(x, 2, 1);
    }

    private static void exactCallsEndTheRound() {
        sentence(0, "To call exact ends the round: if exactly n dice count for f, the player who calls wins a die, "
                + "unless that one has 5, otherwise loses one.");
        Play x = Play.dealt(true, "22222/33333");
        x.ask("claim(5, 2)");
        x.due("callExact()", 1);
        dueRoundEnded(x, 1, 0);
        x.deal("22222/33333");
        x.ask("claim(4, 3)");
        x.due("callExact()", 0);
        dueRoundEnded(x, 2, 0);
    }

    private static void dueRoundEnded(Play x, int rounds, int rightDoubts) {
        x.due("count(3)", 0);
        x.dueForAll(NONE, "count(4)", "count(5)", "count(6)", "die(0, 0)", "die(1, 0)");
        x.due("count(8)", rounds);
        x.due("count(9)", rightDoubts);
        x.due("counting(-1, 2)", 0);
        x.dueForAll(STATE, "claim(25, 1)", "doubt()", "callExact()", "advice()", "bestClaim(0)", "chance(0, 1, 2, 0)");
    }

    // ---- matrices

    private static void rowsGetColumnsGive() {
        sentence(0, "Two choose a row and a column; the entry is what the one who chooses the row gets from the other one.");
        dueValue("1 2", 1, 1);
        dueValue("1/2", 2, 1);
        dueValue("-3-5", -5, 1);
        dueValue("-3/-5", -3, 1);
        dueValue("3 1/2 0", 1, 1);
        // the other way round, with the signs turned
        dueValue("5 0 3/1 4 2", 12, 5);
        dueValue("-5-1/0-4/-3-2", -12, 5);
    }

    private static void dueValue(String text, long numerator, long denominator) {
        Play.withMatrix(text).dueFraction("value(", numerator, denominator);
    }

    // ---- errors

    private static void argumentsOutOfRange() {
        sentence(0, "BAD: an argument is out of range, or names something that does not exist.");
        for (String number : new String[] {"LEAST", "-2", "MOST"}) {
            Play x = Play.dealt(true, "22222/33333");
            x.dueForAll(BAD, "type(" + number + ")", "newGame(" + number + ")", "roll(" + number + ")");
            x.dueForAll(BAD, "claim(" + number + ", 1)", "claim(1, " + number + ")");
            x.dueForAll(BAD, "player(" + number + ", 0)", "player(0, " + number + ")");
            x.dueForAll(BAD, "die(" + number + ", 0)", "die(2, " + number + ")");
            x.dueForAll(BAD, "counting(" + number + ", 1)", "counting(-1, " + number + ")");
            x.dueForAll(BAD, "rank(" + number + ", 1)", "rank(1, " + number + ")");
            x.dueForAll(BAD, "chance(" + number + ", 1, 1, 0)", "chance(0, " + number + ", 1, 0)");
            x.dueForAll(BAD, "chance(0, 1, " + number + ", 0)", "chance(0, 1, 1, " + number + ")");
            x.dueForAll(BAD, "chanceBits(" + number + ", 1, 1)", "chanceBits(0, " + number + ", 1)");
            x.dueForAll(BAD, "chanceBits(0, 1, " + number + ")", "bestClaim(" + number + ")");
            x.dueForAll(BAD, "entry(" + number + ", 0)", "entry(0, " + number + ")");
            x.dueForAll(BAD, "share(false, " + number + ", false)", "share(true, " + number + ", true)");
            x.dueForAll(BAD, "saddle(" + number + ", 0)", "saddle(0, " + number + ")", "count(" + number + ")");
        }
    }

    private static void notPossibleNow() {
        sentence(0, "STATE: the call is not possible now, as the method says.");
        Play x = new Play();
        x.dueForAll(STATE, "deal()", "claim(1, 1)", "doubt()", "callExact()", "setMatrix()", "undo()");
        x.dueForAll(STATE, "chance(0, 1, 1, 0)", "chanceBits(0, 1, 1)", "bestClaim(0)", "advice()");
        x.write("11111/22222");
        x.due("deal()", 10);
        x.dueForAll(STATE, "deal()", "roll(0)", "doubt()", "callExact()", "setMatrix()");
        x.due("claim(1, 1)", 12);
        x.dueForAll(STATE, "deal()", "roll(0)", "claim(1, 1)", "setWild(true)", "setMatrix()");
    }

    private static void limits() {
        sentence(0, "FULL: a limit would be exceeded.");
        Play x = Play.withText("1".repeat(60));
        x.due("type(49)", FULL);
        x.due("clearText()", 60);
        x.due("type(49)", 1);
    }

    // ---- promises 2 to 13

    private static void bytesInOrder() {
        sentence(2, "Appends a byte to the text.");
        Play x = new Play();
        String text = "";
        for (int letter = 127; letter >= 0; letter -= 11) {
            x.due("type(" + letter + ")", text.length() + 1);
            text += (char) letter;
            x.dueDigest(text);
        }
    }

    private static void beginsANewGame() {
        sentence(5, "Begins a new game.");
        for (int players = 2; players <= 5; players++) {
            Play x = Play.dealt(true, "2/33//4");
            x.ask("claim(1, 2)");
            x.due("callExact()", 1);
            x.ask("roll(5)");
            x.ask("claim(1, 2)");
            x.due("newGame(" + players + ")", 4);
            long[] numbers = {players, players, 0, 0, NONE, NONE, NONE, 1, 0, 0};
            for (int what = 0; what < numbers.length; what++) {
                x.due("count(" + what + ")", numbers[what]);
            }
            for (int p = 0; p < players; p++) {
                x.due("player(" + p + ", 0)", 5);
                x.dueForAll(0, "player(" + p + ", 1)", "player(" + p + ", 2)", "counting(" + p + ", 1)");
                x.due("die(" + p + ", 0)", NONE);
            }
        }
        sentence(5, "Returns the number of players before; BAD.");
        Play y = new Play();
        y.due("newGame(3)", 2);
        y.dueForAll(BAD, "newGame(1)", "newGame(6)");
        y.due("newGame(2)", 3);
    }

    private static void rankAboveThePresentOne() {
        sentence(9, "BAD; STATE if no dice are dealt, or the rank is not greater than that of the present claim.");
        Play x = Play.dealt(true, "22222/33333");
        x.due("claim(3, 6)", 23);
        x.dueForAll(STATE, "claim(3, 6)", "claim(3, 5)", "claim(1, 1)");
        x.due("claim(2, 1)", 24);
        x.dueForAll(STATE, "claim(2, 1)", "claim(3, 6)", "claim(1, 1)");
        x.due("claim(4, 2)", 25);
        sentence(9, "Claims something, for the player whose turn it is.");
        x.due("count(6)", 0);
        x.due("count(2)", 1);
        x.due("count(4)", 4);
        x.due("count(5)", 2);
    }

    private static void theOneWhoseTurnItIs() {
        sentence(10, "Doubts the present claim, for the player whose turn it is.");
        for (int claims = 1; claims <= 5; claims++) {
            Play x = Play.dealt(true, "22222/22222/22222/33333");
            for (int n = 1; n <= claims; n++) {
                x.ask("claim(" + n + ", 2)");
            }
            x.due("doubt()", claims % 4);
            x.due("player(" + claims % 4 + ", 0)", 4);
            x.due("player(" + claims % 4 + ", 1)", 1);
        }
        sentence(11, "Calls the present claim exact, for the player whose turn it is.");
        for (int claims = 1; claims <= 5; claims++) {
            Play x = Play.dealt(true, "22222/22222/22222/33333");
            for (int n = 1; n <= claims; n++) {
                x.ask("claim(" + n + ", 2)");
            }
            x.due("callExact()", 0);
            x.due("player(" + claims % 4 + ", 0)", 4);
            x.due("player(" + claims % 4 + ", 1)", 1);
        }
    }

    // ---- promises 14 to 17

    private static void propertiesOfPlayers() {
        sentence(14, "Returns a property of a player.");
        Play x = Play.withDice(true, 2, 5, 4);
        x.due("player(0, 0)", 2);
        x.due("player(1, 0)", 5);
        x.due("player(2, 0)", 4);
        x.due("player(0, 1)", 3);
        x.due("player(1, 1)", 0);
        x.due("player(2, 1)", 1);
        x.dueForAll(0, "player(0, 2)", "player(1, 2)", "player(2, 2)");
        sentence(14, "2 for that of rounds that the player won by calling exact (also without winning a die)");
        x.deal("22/33333/4444");
        x.ask("claim(5, 3)");
        x.due("callExact()", 1);
        x.due("player(1, 2)", 1);
        x.due("player(1, 0)", 5);
        x.deal("22/33333/4444");
        x.ask("claim(5, 3)");
        x.due("callExact()", 1);
        x.due("player(2, 2)", 1);
        x.due("player(2, 0)", 5);
        x.due("player(2, 1)", 1);
        sentence(14, "Returns the property; BAD.");
        x.dueForAll(BAD, "player(3, 0)", "player(-1, 0)", "player(0, 3)", "player(0, -1)");
    }

    private static void diceByIndex() {
        sentence(15, "Returns a die.");
        sentence(15, "its index under the cup, from 0");
        sentence(15, "Returns the face");
        dueDice("12345/65432");
        dueDice("654/12/3/4444/55555");
        dueDice("/31//62453");
    }

    private static void dueDice(String cups) {
        Play x = Play.dealt(true, cups);
        String[] each = cups.split("/", -1);
        for (int p = 0; p < each.length; p++) {
            for (int i = 0; i < 6; i++) {
                x.due("die(" + p + ", " + i + ")", i < each[p].length() ? each[p].charAt(i) - '0' : NONE);
            }
        }
    }

    private static void countsUnderOneCupOrAll() {
        sentence(16, "Counts the dice that count for a face, under one cup or all.");
        for (boolean wild : new boolean[] {true, false}) {
            String cups = "112/12345/6/166/";
            Play x = Play.dealt(wild, cups);
            String[] each = cups.split("/", -1);
            for (char face = '1'; face <= '6'; face++) {
                int all = 0;
                for (int p = 0; p < each.length; p++) {
                    int counted = 0;
                    for (char shown : each[p].toCharArray()) {
                        counted += shown == face || wild && shown == '1' ? 1 : 0;
                    }
                    x.due("counting(" + p + ", " + face + ")", counted);
                    all += counted;
                }
                x.due("counting(-1, " + face + ")", all);
            }
        }
    }

    private static void ranksOfAllClaims() {
        sentence(17, "Returns the rank of a claim.");
        sentence(17, "Returns the rank; BAD.");
        Play wild = new Play();
        Play notWild = new Play();
        notWild.ask("setWild(false)");
        for (int n = 0; n <= 26; n++) {
            for (int face = 0; face <= 7; face++) {
                boolean isClaim = n >= 1 && n <= 25 && face >= 1 && face <= 6;
                String call = "rank(" + n + ", " + face + ")";
                due(call + ", wild", wild.ask(call), !isClaim ? BAD : face == 1 ? 12 * n : 6 * n + face - 1);
                due(call + ", not wild", notWild.ask(call), isClaim ? 6 * n + face : BAD);
            }
        }
    }

    // ---- promises 18 to 20

    private static void chancesOfEachPlayer() {
        sentence(18, "Tells the chance of a claim for a player.");
        Play x = Play.dealt(false, "22/3/");
        x.dueChance("0, 3, 2", 1, 6, 1, 6);
        x.dueChance("1, 3, 2", 0, 1, 0, 1);
        x.dueChance("1, 2, 2", 1, 36, 1, 36);
        x.dueChance("1, 2, 3", 11, 36, 5, 18);
        x.dueForAll(STATE, "chance(2, 2, 2, 0)", "chanceBits(2, 2, 2)");
        sentence(18, "Returns the number");
        x.due("chance(1, 2, 3, 2)", 5);
        x.due("chance(1, 2, 3, 3)", 18);
        sentence(19, "Tells the chance of a claim for a player as a float");
        x.due("chanceBits(1, 2, 3)", Float.floatToIntBits(11f / 36f));
        x.due("chanceBits(0, 3, 2)", Float.floatToIntBits(1f / 6f));
        sentence(19, "the player");
        x.dueForAll(BAD, "chanceBits(-1, 1, 1)", "chanceBits(3, 1, 1)");
        sentence(19, "1 to 25");
        x.dueForAll(BAD, "chanceBits(0, 0, 1)", "chanceBits(0, 26, 1)");
        x.due("chanceBits(0, 1, 2)", Float.floatToIntBits(1f));
        x.due("chanceBits(0, 25, 2)", Float.floatToIntBits(0f));
        sentence(19, "1 to 6");
        x.dueForAll(BAD, "chanceBits(0, 1, 0)", "chanceBits(0, 1, 7)");
        x.dueForAll(Float.floatToIntBits(1f / 6f), "chanceBits(0, 1, 1)", "chanceBits(0, 1, 6)");
    }

    private static void bestClaimsAsNumbers() {
        sentence(20, "Returns the best claim of a player.");
        sentence(20, "Returns 10 * n + f");
        Play x = Play.dealt(false, "66666/55555/44444");
        x.due("bestClaim(0)", 16);
        x.due("bestClaim(1)", 15);
        x.due("bestClaim(2)", 14);
        x.ask("claim(5, 4)");
        x.due("bestClaim(0)", 56);
        x.due("bestClaim(1)", 55);
        x.due("bestClaim(2)", 64);
        x.ask("claim(20, 3)");
        x.dueForAll(204, "bestClaim(0)", "bestClaim(1)", "bestClaim(2)");
        sentence(20, "the player");
        x.dueForAll(BAD, "bestClaim(3)", "bestClaim(-1)");
    }

    // ---- promises 22 to 25

    private static void entriesByRowAndColumn() {
        sentence(22, "Returns an entry of the matrix.");
        sentence(22, "the row, from 0");
        sentence(22, "the column, from 0");
        Play x = Play.withMatrix("11 12 13 14/21 22 23 24/31 32 33 34");
        for (int row = -1; row <= 4; row++) {
            for (int column = -1; column <= 4; column++) {
                boolean is = row >= 0 && row < 3 && column >= 0 && column < 4;
                x.due("entry(" + row + ", " + column + ")", is ? 10 * row + column + 11 : BAD);
            }
        }
    }

    private static void numeratorsAndDenominators() {
        sentence(23, "Tells the value of the matrix");
        sentence(23, "whether the denominator is meant, else the numerator");
        sentence(23, "Returns the number.");
        Play x = Play.withMatrix("1 2/3-4");
        x.due("value(false)", 5);
        x.due("value(true)", 4);
        x.write("-1-2/-3 4");
        x.ask("setMatrix()");
        x.due("value(false)", -5);
        x.due("value(true)", 4);
    }

    private static void sharesOfRowsAndColumns() {
        sentence(24, "whether a column is meant, else a row");
        Play x = Play.withMatrix("1 2/3-4");
        x.dueFraction("share(false, 0, ", 7, 8);
        x.dueFraction("share(true, 0, ", 3, 4);
        sentence(24, "its number");
        x.dueFraction("share(false, 1, ", 1, 8);
        x.dueFraction("share(true, 1, ", 1, 4);
        sentence(24, "whether the denominator is meant, else the numerator");
        x.due("share(false, 0, false)", 7);
        x.due("share(false, 0, true)", 8);
        sentence(24, "Returns the number");
        x.due("share(true, 0, false)", 3);
        x.due("share(true, 0, true)", 4);
        Play wide = Play.withMatrix("1 2 3");
        wide.due("share(true, 2, false)", 0);
        wide.due("share(true, 2, true)", 1);
        wide.dueForAll(BAD, "share(false, 1, false)", "share(false, 2, true)");
        Play high = Play.withMatrix("1/2/3");
        high.due("share(false, 2, false)", 1);
        high.due("share(false, 2, true)", 1);
        high.dueForAll(BAD, "share(true, 1, false)", "share(true, 2, true)");
    }

    private static void saddlesOfPairs() {
        sentence(25, "Tells whether a pair of a row and a column is a saddle");
        sentence(25, "the row");
        Play x = Play.withMatrix("4 5/1 9/3 2");
        x.due("saddle(0, 0)", 1);
        x.dueForAll(0, "saddle(1, 0)", "saddle(2, 0)", "saddle(2, 1)", "saddle(1, 1)");
        sentence(25, "the column");
        x.due("saddle(0, 1)", 0);
        x.dueForAll(BAD, "saddle(0, 2)", "saddle(3, 0)");
    }

    // ---- promises 26 and 27

    private static void numbersTold() {
        sentence(26, "Returns a number.");
        sentence(26, "(the claim was wrong)");
        Play x = Play.withText("22222/33333/44444");
        x.ask("newGame(3)");
        x.ask("setWild(false)");
        x.ask("deal()");
        x.ask("claim(6, 2)");
        x.ask("doubt()");
        x.deal("2222/33333/44444");
        x.ask("claim(4, 2)");
        x.ask("doubt()");
        x.deal("2222/3333/44444");
        x.ask("claim(4, 3)");
        x.ask("claim(5, 4)");
        x.write("1 2/3 4/5 6");
        x.ask("setMatrix()");
        long[] numbers = {3, 3, 0, 1, 5, 4, 2, 0, 2, 1, 3, 2, 8, 11};
        for (int what = 0; what < numbers.length; what++) {
            x.due("count(" + what + ")", numbers[what]);
        }
    }

    private static void digestsTold() {
        sentence(27, "Returns a digest.");
        sentence(27, "count(0) to count(13)");
        sentence(27, "Returns h.");
        Play x = Play.dealt(false, "2/6");
        x.ask("claim(1, 6)");
        // three fours of two dice have no chance, two twos and two sixes 1/6; exactly one six has 5/6
        due("digest() of a round", x.ask("digest()"), digest(2, 2, 1, 1, 1, 6, 0, 0, 8, 8, 1, 1, 8, 3,
                1, 4, 0, 2, 1, 4, 0, 6, 22, 0, 1, 26, 0, 1, 2, 0, 0, 1, 1, 1, 1, 1, '2', '/', '6'));
    }

    private static long digest(long... numbers) {
        long h = 131;
        for (long number : numbers) {
            h = 31 * h + number;
        }
        return h;
    }

    private static void objectsApart() {
        sentence(0, "Nothing is promised beyond the answers and state changes described above");
        CupClaims[] objects = new CupClaims[10];
        long[] digests = new long[objects.length];
        for (int i = 0; i < objects.length; i++) {
            objects[i] = played(i);
            digests[i] = objects[i].digest();
        }
        for (int i = 0; i < objects.length; i++) {
            due("digest() of an object behind calls of others", objects[i].digest(), digests[i]);
            due("undo() of an object behind calls of others", objects[i].undo(), 4);
        }
        for (int i = 0; i < objects.length; i++) {
            due("digest() of an object with the same calls", played(i).digest(), digests[i]);
        }
    }

    private static CupClaims played(int number) {
        CupClaims x = new CupClaims();
        x.newGame(2 + number % 4);
        x.setWild(number % 2 == 0);
        x.roll(number);
        x.claim(number + 1, 6);
        x.type('0' + number);
        x.setMatrix();
        return x;
    }
}
