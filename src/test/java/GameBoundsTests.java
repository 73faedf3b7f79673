/** The boundary cases of the game: promises 1, 5, 6, 8 to 11, 14 to 17, and "The game" that they rest on. */
public final class GameBoundsTests extends Bounds {
    public static void main(String[] args) {
        playersFromTheFirstToTheLast();
        fiveDiceInANewGame();
        noDiceIsOut();
        facesOfAllSeeds();
        asManyFacesAsDice();
        whenNoDiceAreDealt();
        onesCount();
        claimsAreOfAtLeast();
        ranksNotWild();
        ranksWild();
        rankOfOnesAmongOthers();
        turnsGoRound();
        playerZeroBegins();
        rankMustBeGreater();
        nothingToDoubt();
        thoseWhoLoseByDoubts();
        exactlyN();
        fiveDiceAreTheMost();
        whoBeginsTheNextRound();
        nextOneWhoIsNotOut();
        gameIsOver();
        newObject();
        newGames();
        settingWild();
        rolling();
        claiming();
        ending();
        playersTold();
        diceTold();
        countingTold();
        ranksTold();
        end();
    }

    // ---- the game

    private static void playersFromTheFirstToTheLast() {
        sentence(0, "There are 2 to 5 players, numbered from 0");
        for (int players = 2; players <= 5; players++) {
            Play x = new Play();
            x.due("newGame(" + players + ")", 2);
            x.due("count(0)", players);
            x.due("count(1)", players);
            x.due("player(0, 0)", 5);
            x.due("player(" + (players - 1) + ", 0)", 5);
            x.due("player(" + players + ", 0)", BAD);
            x.due("player(-1, 0)", BAD);
        }
    }

    private static void fiveDiceInANewGame() {
        sentence(0, "at first, and in a new game, each has 5 dice");
        Play x = new Play();
        x.dueForAll(5, "player(0, 0)", "player(1, 0)");
        x.due("player(2, 0)", BAD);
        Play y = Play.withDice(true, 0, 1, 4);
        y.due("newGame(5)", 3);
        y.dueForAll(5, "player(0, 0)", "player(1, 0)", "player(2, 0)", "player(3, 0)", "player(4, 0)");
        y.due("newGame(2)", 5);
        y.dueForAll(5, "player(0, 0)", "player(1, 0)");
        y.due("count(1)", 2);
        y.due("newGame(5)", 2);
        y.dueForAll(5, "player(2, 0)", "player(3, 0)", "player(4, 0)");
        y.due("roll(0)", 25);
    }

    private static void noDiceIsOut() {
        sentence(0, "A player with 0 dice is out.");
        Play x = Play.withDice(true, 1, 2, 2);
        x.due("count(1)", 3);
        x.due("roll(9)", 5);
        x.due("chance(0, 25, 1, 1)", 1);
        x.due("undo()", 7);
        x.lose(0);
        x.due("player(0, 0)", 0);
        x.due("count(1)", 2);
        x.due("count(0)", 3);
        x.due("roll(9)", 4);
        x.dueForAll(STATE, "bestClaim(0)", "chance(0, 25, 1, 1)", "chanceBits(0, 25, 1)");
    }

    private static void facesOfAllSeeds() {
        sentence(0, "A die shows a face from 1 to 6");
        CupClaims x = new CupClaims();
        int[] shown = new int[8];
        for (int seed = 0; seed <= 65535; seed++) {
            if (seed % 100 == 0) {
                x = new CupClaims();
            }
            x.roll(seed);
            int first = x.die(0, 0);
            int last = x.die(1, 4);
            x.undo();
            shown[first < 1 || first > 6 ? 0 : first]++;
            shown[last < 1 || last > 6 ? 7 : last]++;
        }
        due("dice that show none of the faces", shown[0] + shown[7], 0);
        for (int face = 1; face <= 6; face++) {
            due("whether any die shows " + face, shown[face] > 0 ? 1 : 0, 1);
        }
    }

    private static void asManyFacesAsDice() {
        sentence(0, "Dice are dealt: each player who is not out has as many faces under the cup as dice.");
        Play x = Play.dealt(true, "6/15/621/3336/44441");
        x.due("die(0, 0)", 6);
        x.due("die(1, 1)", 5);
        x.due("die(2, 2)", 1);
        x.due("die(3, 3)", 6);
        x.due("die(4, 4)", 1);
        x.dueForAll(NONE, "die(0, 1)", "die(1, 2)", "die(2, 3)", "die(3, 4)", "die(4, 5)");
        Play y = Play.dealt(true, "/4//65");
        y.due("die(1, 0)", 4);
        y.due("die(3, 0)", 6);
        y.due("die(3, 1)", 5);
        y.dueForAll(NONE, "die(0, 0)", "die(2, 0)", "die(1, 1)", "die(3, 2)");
    }

    private static void whenNoDiceAreDealt() {
        sentence(0, "Before they are dealt, and behind the end of a round, no dice are dealt.");
        Play x = new Play();
        dueNotDealt(x);
        x.ask("roll(3)");
        x.due("count(3)", 1);
        x.ask("claim(1, 2)");
        x.due("count(3)", 1);
        x.ask("doubt()");
        dueNotDealt(x);
        x.ask("roll(3)");
        x.ask("claim(1, 2)");
        x.ask("callExact()");
        dueNotDealt(x);
        x.ask("roll(3)");
        x.ask("newGame(2)");
        dueNotDealt(x);
    }

    private static void dueNotDealt(Play x) {
        x.due("count(3)", 0);
        x.dueForAll(NONE, "die(0, 0)", "die(1, 0)", "count(4)", "count(5)", "count(6)");
        x.dueForAll(0, "counting(-1, 1)", "counting(0, 1)", "counting(-1, 6)");
        x.dueForAll(STATE, "claim(1, 2)", "doubt()", "callExact()", "advice()", "bestClaim(0)");
    }

    private static void onesCount() {
        sentence(0, "A die counts for a face if it shows it; if ones are wild, ones count for each face.");
        Play x = Play.dealt(true, "11666/22345");
        dueCounting(x, -1, 2, 4, 3, 3, 3, 5);
        dueCounting(x, 0, 2, 2, 2, 2, 2, 5);
        dueCounting(x, 1, 0, 2, 1, 1, 1, 0);
        x.due("setWild(false)", 1);
        dueCounting(x, -1, 2, 2, 1, 1, 1, 3);
        dueCounting(x, 0, 2, 0, 0, 0, 0, 3);
        dueCounting(x, 1, 0, 2, 1, 1, 1, 0);
        Play y = Play.dealt(true, "11111/11111/11111/11111/11111");
        dueCounting(y, -1, 25, 25, 25, 25, 25, 25);
        dueCounting(y, 4, 5, 5, 5, 5, 5, 5);
        y.due("setWild(false)", 1);
        dueCounting(y, -1, 25, 0, 0, 0, 0, 0);
        dueCounting(y, 4, 5, 0, 0, 0, 0, 0);
    }

    private static void dueCounting(Play x, int player, int... want) {
        for (int face = 1; face <= 6; face++) {
            x.due("counting(" + player + ", " + face + ")", want[face - 1]);
        }
    }

    private static void claimsAreOfAtLeast() {
        sentence(0, "it says that at least n dice under all cups together count for f");
        dueLoserByDoubt(true, "11666/22345", "claim(5, 6)", 1);
        dueLoserByDoubt(true, "11666/22345", "claim(6, 6)", 0);
        dueLoserByDoubt(false, "11666/22345", "claim(3, 6)", 1);
        dueLoserByDoubt(false, "11666/22345", "claim(4, 6)", 0);
        dueLoserByDoubt(true, "11666/22345", "claim(1, 1)", 1);
        dueLoserByDoubt(true, "11666/22345", "claim(2, 1)", 1);
        dueLoserByDoubt(true, "11666/22345", "claim(3, 1)", 0);
        dueLoserByDoubt(true, "22222/33333", "claim(1, 1)", 0);
        dueLoserByDoubt(true, "22222/33333", "claim(1, 4)", 0);
        dueLoserByDoubt(true, "22222/33333", "claim(1, 3)", 1);
        dueLoserByDoubt(true, "1/1", "claim(2, 6)", 1);
        dueLoserByDoubt(true, "1/1", "claim(3, 6)", 0);
        dueLoserByDoubt(false, "66666/66666/66666/66666/66666", "claim(25, 6)", 1);
        dueLoserByDoubt(false, "66666/66666/66666/66666/66665", "claim(25, 6)", 0);
        dueLoserByDoubt(true, "11111/11111/11111/11111/11111", "claim(25, 1)", 1);
        dueLoserByDoubt(true, "11111/11111/61111/11111/11111", "claim(25, 1)", 0);
        dueLoserByDoubt(true, "11111/66666/11111/66666/11111", "claim(25, 6)", 1);
    }

    /** Player 0 claims, player 1 doubts it. */
    private static void dueLoserByDoubt(boolean wild, String cups, String claim, int loser) {
        Play x = Play.dealt(wild, cups);
        x.due("count(2)", 0);
        x.ask(claim);
        x.due("doubt()", loser);
        x.due("count(9)", x.ask("count(8)") - loser);
    }

    private static void ranksNotWild() {
        sentence(0, "If ones are not wild it is 6 * n + f.");
        Play x = new Play();
        x.ask("setWild(false)");
        x.due("rank(1, 1)", 7);
        x.due("rank(1, 6)", 12);
        x.due("rank(2, 1)", 13);
        x.due("rank(25, 1)", 151);
        x.due("rank(25, 6)", 156);
    }

    private static void ranksWild() {
        sentence(0, "If they are wild it is 6 * n + f - 1 for a face from 2 to 6, and 12 * n for the face 1");
        Play x = new Play();
        x.due("rank(1, 2)", 7);
        x.due("rank(1, 6)", 11);
        x.due("rank(25, 2)", 151);
        x.due("rank(25, 6)", 155);
        x.due("rank(1, 1)", 12);
        x.due("rank(25, 1)", 300);
    }

    private static void rankOfOnesAmongOthers() {
        sentence(0, "(n ones are more than 2 * n - 1 sixes, and less than 2 * n twos)");
        for (int n : new int[] {1, 2, 11, 12}) {
            Play x = new Play();
            x.ask("roll(5)");
            x.due("claim(" + (2 * n - 1) + ", 6)", 12 * n - 1);
            x.due("claim(" + n + ", 1)", 12 * n);
            x.due("claim(" + (2 * n - 1) + ", 6)", STATE);
            x.due("claim(" + 2 * n + ", 2)", 12 * n + 1);
            x.due("claim(" + n + ", 1)", STATE);
        }
        Play y = new Play();
        y.ask("roll(5)");
        y.due("claim(25, 6)", 155);
        y.due("claim(12, 1)", STATE);
        y.due("claim(13, 1)", 156);
        y.due("claim(25, 6)", STATE);
    }

    private static void turnsGoRound() {
        sentence(0, "In a round, the players who are not out take turns by ascending numbers, "
                + "behind the last one the first one.");
        dueTurns("22222/33333", 0, 1);
        dueTurns("22222/33333/22222/33333/22222", 0, 1, 2, 3, 4);
        dueTurns("/22/33", 1, 2);
        dueTurns("22/33/", 0, 1);
        dueTurns("22//33", 0, 2);
        dueTurns("22///33/", 0, 3);
        dueTurns("/22///33", 1, 4);
        dueTurns("2/3//4/5", 0, 1, 3, 4);
    }

    private static void dueTurns(String cups, int... order) {
        Play x = Play.dealt(true, cups);
        for (int turn = 0; turn < 11; turn++) {
            x.due("count(2)", order[turn % order.length]);
            x.ask("claim(" + (turn + 1) + ", 2)");
            x.due("count(6)", order[turn % order.length]);
        }
    }

    private static void playerZeroBegins() {
        sentence(0, "In the first round of a game the player 0 begins.");
        Play x = new Play();
        x.due("count(2)", 0);
        x.ask("roll(1)");
        x.due("count(2)", 0);
        x.ask("claim(2, 2)");
        x.due("count(2)", 1);
        x.ask("newGame(3)");
        x.due("count(2)", 0);
        Play y = Play.withDice(true, 0, 2, 2);
        y.due("count(2)", 1);
        y.ask("newGame(3)");
        y.due("count(2)", 0);
        Play z = Play.withDice(true, 0, 2);
        z.due("count(2)", NONE);
        z.ask("newGame(2)");
        z.due("count(2)", 0);
    }

    private static void rankMustBeGreater() {
        sentence(0, "claims something with a rank greater than that of the present claim, if there is one");
        Play x = Play.dealt(false, "22222/33333");
        x.due("claim(1, 1)", 7);
        x.due("claim(1, 1)", STATE);
        x.due("claim(1, 2)", 8);
        x.due("claim(1, 1)", STATE);
        x.due("claim(1, 6)", 12);
        x.due("claim(1, 6)", STATE);
        x.due("claim(2, 1)", 13);
        x.due("claim(1, 6)", STATE);
        x.due("claim(25, 6)", 156);
        noClaimStands(x);
        Play y = Play.dealt(true, "22222/33333");
        y.due("claim(1, 2)", 7);
        y.due("claim(1, 2)", STATE);
        y.due("claim(1, 3)", 8);
        y.due("claim(25, 1)", 300);
        noClaimStands(y);
    }

    private static void noClaimStands(Play x) {
        int refused = 0;
        for (int n = 1; n <= 25; n++) {
            for (int face = 1; face <= 6; face++) {
                refused += x.ask("claim(" + n + ", " + face + ")") == STATE ? 1 : 0;
            }
        }
        due("claims refused behind the greatest one", refused, 150);
    }

    private static void nothingToDoubt() {
        sentence(0, "or doubts it, or calls it exact, if there is one");
        Play x = new Play();
        x.dueForAll(STATE, "doubt()", "callExact()");
        x.ask("roll(1)");
        x.dueForAll(STATE, "doubt()", "callExact()");
        x.ask("claim(1, 2)");
        x.ask("undo()");
        x.dueForAll(STATE, "doubt()", "callExact()");
        x.ask("claim(1, 2)");
        x.ask("doubt()");
        x.dueForAll(STATE, "doubt()", "callExact()");
        x.ask("roll(1)");
        x.dueForAll(STATE, "doubt()", "callExact()");
    }

    private static void thoseWhoLoseByDoubts() {
        sentence(0, "if the claim is right, the player who doubts loses a die, otherwise the one who made it");
        Play x = Play.dealt(true, "2/2/2/2/2");
        x.ask("claim(1, 2)");
        x.ask("claim(2, 2)");
        x.ask("claim(3, 2)");
        x.ask("claim(4, 2)");
        x.ask("claim(5, 2)");
        x.due("count(6)", 4);
        x.due("doubt()", 0);
        x.due("player(0, 0)", 0);
        x.due("undo()", 7);
        x.due("claim(6, 2)", 37);
        x.due("count(6)", 0);
        x.due("doubt()", 0);
        x.due("undo()", 7);
        x.due("claim(7, 2)", 43);
        x.due("doubt()", 1);
        x.due("player(1, 0)", 0);
        x.dueForAll(1, "player(0, 0)", "player(2, 0)", "player(3, 0)", "player(4, 0)");
    }

    private static void exactlyN() {
        sentence(0, "if exactly n dice count for f, the player who calls wins a die");
        dueExactCall(true, "11666/22345", "claim(4, 6)", 0);
        dueExactCall(true, "11666/22345", "claim(5, 6)", 1);
        dueExactCall(true, "11666/22345", "claim(6, 6)", 0);
        dueExactCall(true, "11666/22345", "claim(1, 1)", 0);
        dueExactCall(true, "11666/22345", "claim(2, 1)", 1);
        dueExactCall(true, "11666/22345", "claim(3, 1)", 0);
        dueExactCall(false, "11666/22345", "claim(2, 6)", 0);
        dueExactCall(false, "11666/22345", "claim(3, 6)", 1);
        dueExactCall(false, "11666/22345", "claim(4, 6)", 0);
        dueExactCall(true, "6/1", "claim(2, 6)", 1);
        dueExactCall(true, "6/1", "claim(1, 6)", 0);
        dueExactCall(true, "11111/11111/11111/11111/11111", "claim(25, 1)", 1);
        dueExactCall(true, "11111/11111/11111/11111/11112", "claim(25, 1)", 0);
        dueExactCall(false, "66666/66666/66666/66666/66666", "claim(25, 6)", 1);
        dueExactCall(false, "66666/66666/66666/66666/66666", "claim(24, 6)", 0);
    }

    /** Player 0 claims, player 1 calls it exact. */
    private static void dueExactCall(boolean wild, String cups, String claim, int exact) {
        Play x = Play.dealt(wild, cups);
        long dice = x.ask("player(1, 0)");
        long lost = x.ask("player(1, 1)");
        x.due("count(2)", 0);
        x.ask(claim);
        x.due("callExact()", exact);
        x.due("player(1, 0)", exact == 1 ? Math.min(5, dice + 1) : dice - 1);
        x.due("player(1, 1)", lost + 1 - exact);
        x.due("player(1, 2)", exact);
        x.due("player(0, 2)", 0);
    }

    private static void fiveDiceAreTheMost() {
        sentence(0, "wins a die, unless that one has 5, otherwise loses one");
        for (int dice = 1; dice <= 5; dice++) {
            Play x = Play.dealt(true, "22/33333".substring(0, 3 + dice));
            x.ask("claim(2, 2)");
            x.due("callExact()", 1);
            x.due("player(1, 0)", dice < 5 ? dice + 1 : 5);
            x.due("player(0, 0)", 2);
            x.due("undo()", 7);
            x.due("player(1, 0)", dice);
            x.due("undo()", 6);
            x.ask("claim(1, 2)");
            x.due("callExact()", 0);
            x.due("player(1, 0)", dice - 1);
            x.due("player(0, 0)", 2);
        }
    }

    private static void whoBeginsTheNextRound() {
        sentence(0, "The next round begins with the player who lost a die, or called exact");
        Play x = Play.dealt(true, "22222/33333/44444");
        x.ask("claim(1, 2)");
        x.ask("claim(2, 2)");
        x.due("doubt()", 2);
        x.due("count(2)", 2);
        x.ask("undo()");
        x.ask("claim(25, 2)");
        x.due("doubt()", 2);
        x.due("count(2)", 2);
        x.ask("undo()");
        x.ask("claim(25, 3)");
        x.due("count(2)", 1);
        x.due("doubt()", 0);
        x.due("count(2)", 0);
        x.ask("undo()");
        x.due("callExact()", 0);
        x.due("count(2)", 1);
        Play y = Play.dealt(true, "22222/33333/44444");
        y.ask("claim(1, 2)");
        y.ask("claim(5, 4)");
        y.due("callExact()", 1);
        y.due("count(2)", 2);
        y.ask("roll(2)");
        y.due("count(2)", 2);
    }

    private static void nextOneWhoIsNotOut() {
        sentence(0, "if that one is out now, with the next one who is not");
        dueBeginner(2, 0, 2, 2, 1);
        dueBeginner(3, 1, 0, 2, 2, 1);
        dueBeginner(4, 2, 0, 0, 2, 2, 1);
        dueBeginner(0, 1, 1, 2, 2);
        dueBeginner(0, 3, 1, 0, 0, 2, 2);
        dueBeginner(1, 2, 2, 1, 2);
        dueBeginner(1, 4, 2, 1, 0, 0, 2);
        dueBeginner(3, 0, 2, 2, 0, 1, 0);
        Play x = Play.dealt(true, "2/2/2");
        x.ask("claim(1, 2)");
        x.due("callExact()", 0);
        x.due("player(1, 0)", 0);
        x.due("count(2)", 2);
        x.ask("undo()");
        x.ask("claim(2, 2)");
        x.due("callExact()", 0);
        x.due("player(2, 0)", 0);
        x.due("count(2)", 0);
        x.ask("undo()");
        x.ask("claim(3, 2)");
        x.due("doubt()", 0);
        x.due("player(0, 0)", 0);
        x.due("count(2)", 1);
    }

    private static void dueBeginner(int loser, int beginner, int... dice) {
        Play x = Play.withDice(true, dice);
        x.lose(loser);
        x.due("player(" + loser + ", 0)", 0);
        x.due("count(2)", beginner);
        x.ask("roll(4)");
        x.due("count(2)", beginner);
        x.ask("claim(1, 2)");
        x.due("count(6)", beginner);
    }

    private static void gameIsOver() {
        sentence(0, "The game is over when only one player is not out; nobody's turn it is then.");
        dueOver(1, 0);
        dueOver(0, 1);
        dueOver(0, 5);
        dueOver(0, 0, 2);
        dueOver(3, 0, 0, 0, 0);
        dueOver(0, 0, 4, 0, 0);
        Play x = Play.withDice(true, 1, 0, 0, 0, 1);
        x.due("count(1)", 2);
        x.due("count(2)", 0);
        x.due("roll(8)", 2);
    }

    private static void dueOver(int... dice) {
        Play x = Play.withDice(true, dice);
        int left = 0;
        for (int one : dice) {
            left += one;
        }
        x.due("count(1)", 1);
        x.due("count(2)", NONE);
        dueNotDealt(x);
        x.dueForAll(STATE, "roll(0)", "roll(65535)", "deal()");
        x.write("11111".substring(0, left));
        x.due("fault(false)", NONE);
        x.due("deal()", STATE);
        x.dueForAll(STATE, "chance(0, 1, 1, 0)", "chanceBits(0, 1, 1)");
        x.due("setWild(false)", 1);
        x.due("setMatrix()", left < 3 ? 1 : STATE);
        x.due("count(2)", NONE);
        x.due("newGame(2)", dice.length);
        x.due("count(2)", 0);
    }

    // ---- promises 1, 5, 6

    private static void newObject() {
        sentence(1, "Creates a game of two players, before dice are dealt, with the matrix of one entry 0, and an empty text.");
        Play x = new Play();
        long[] numbers = {2, 2, 0, 0, NONE, NONE, NONE, 1, 0, 0, 1, 1, 0, 0};
        for (int what = 0; what < numbers.length; what++) {
            x.due("count(" + what + ")", numbers[what]);
        }
        dueNotDealt(x);
        x.dueForAll(0, "player(0, 1)", "player(0, 2)", "player(1, 1)", "player(1, 2)", "entry(0, 0)");
        x.dueForAll(BAD, "entry(0, 1)", "entry(1, 0)");
        x.dueFraction("value(", 0, 1);
        x.dueFraction("share(false, 0, ", 1, 1);
        x.dueFraction("share(true, 0, ", 1, 1);
        x.dueForAll(0, "fault(false)", "fault(true)");
        x.due("undo()", STATE);
        x.dueDigest("");
        x.due("clearText()", 0);
    }

    private static void newGames() {
        sentence(5, "2 to 5");
        Play x = new Play();
        x.dueForAll(BAD, "newGame(1)", "newGame(6)", "newGame(0)", "newGame(-2)", "newGame(LEAST)", "newGame(MOST)");
        x.due("newGame(5)", 2);
        x.due("newGame(2)", 5);
        sentence(5, "Returns the number of players before");
        x.due("newGame(3)", 2);
        x.due("newGame(3)", 3);
        x.due("newGame(4)", 3);
        x.due("undo()", 4);
        x.due("newGame(2)", 3);
        sentence(5, "Whether ones are wild, and the matrix, stay");
        Play y = Play.withMatrix("1 2/3-4");
        y.ask("setWild(false)");
        y.ask("newGame(5)");
        y.due("count(7)", 0);
        y.due("count(10)", 2);
        y.due("entry(1, 1)", -4);
        y.dueFraction("value(", 5, 4);
        y.ask("setWild(true)");
        y.ask("newGame(2)");
        y.due("count(7)", 1);
        sentence(5, "what is counted begins with 0");
        Play z = Play.dealt(true, "2/3/");
        z.ask("claim(1, 2)");
        z.due("callExact()", 1);
        z.ask("roll(7)");
        z.ask("claim(1, 2)");
        z.due("newGame(3)", 3);
        z.dueForAll(0, "count(8)", "count(9)", "count(3)", "player(0, 1)", "player(1, 2)", "player(2, 1)", "player(1, 1)");
        z.dueForAll(NONE, "count(4)", "count(5)", "count(6)");
        z.due("count(12)", 8);
    }

    private static void settingWild() {
        sentence(6, "Returns 1 if they were wild before, otherwise 0");
        Play x = new Play();
        x.due("setWild(true)", 1);
        x.due("setWild(false)", 1);
        x.due("setWild(false)", 0);
        x.due("setWild(true)", 0);
        x.due("setWild(true)", 1);
        sentence(6, "STATE if there is a present claim");
        x.ask("roll(6)");
        x.due("setWild(false)", 1);
        x.ask("claim(1, 1)");
        x.dueForAll(STATE, "setWild(true)", "setWild(false)");
        x.ask("undo()");
        x.due("setWild(true)", 0);
        x.ask("claim(25, 1)");
        x.dueForAll(STATE, "setWild(true)", "setWild(false)");
        x.ask("doubt()");
        x.due("setWild(false)", 1);
        x.ask("roll(6)");
        x.ask("claim(1, 1)");
        x.ask("newGame(2)");
        x.due("setWild(true)", 0);
    }

    // ---- promises 8 to 11

    private static void rolling() {
        sentence(8, "0 to 65535");
        Play x = new Play();
        x.dueForAll(BAD, "roll(-1)", "roll(65536)", "roll(LEAST)", "roll(MOST)", "roll(-65536)", "roll(131071)");
        x.due("roll(0)", 10);
        x.due("undo()", 0);
        x.due("roll(65535)", 10);
        sentence(8, "seed becomes (seed * 1103 + 377) modulo 65536, and the die shows 1 + seed / 7 % 6");
        dueRolled(0, "63414/62224/34255/35151/24221");
        dueRolled(1, "23414/53553/21633/16535/51236");
        dueRolled(65535, "15363/41522/13321/36442/32363");
        // a seed that becomes 0 at once, and one that becomes 65535
        dueRolled(64585, "16341/46222/43425/53515/12422");
        dueRolled(27034, "31536/34152/21332/13644/23236");
        sentence(8, "Deals dice by a number: for each die of player 0, then of player 1, and so on");
        Play y = Play.withDice(true, 1, 0, 2, 0, 3);
        y.due("roll(0)", 6);
        y.due("die(0, 0)", 6);
        y.due("die(2, 0)", 3);
        y.due("die(2, 1)", 4);
        y.due("die(4, 0)", 1);
        y.due("die(4, 1)", 4);
        y.due("die(4, 2)", 6);
        y.dueForAll(NONE, "die(0, 1)", "die(1, 0)", "die(2, 2)", "die(3, 0)", "die(4, 3)");
        sentence(8, "Returns the number of dice; BAD; STATE if the game is over, or dice are dealt already.");
        dueRoll(2, 1, 1);
        dueRoll(3, 1, 0, 0, 0, 2);
        dueRoll(25, 5, 5, 5, 5, 5);
        dueRoll(STATE, 5, 0);
        y.dueForAll(STATE, "roll(0)", "roll(65535)");
        y.dueForAll(BAD, "roll(-1)", "roll(65536)");
        Play z = Play.withDice(true, 0, 1);
        z.dueForAll(BAD, "roll(-1)", "roll(65536)");
    }

    private static void dueRoll(int want, int... dice) {
        Play.withDice(true, dice).due("roll(77)", want);
    }

    private static void dueRolled(int seed, String cups) {
        Play x = new Play();
        x.ask("newGame(5)");
        x.ask("roll(" + seed + ")");
        for (int i = 0; i < 25; i++) {
            x.due("die(" + i / 5 + ", " + i % 5 + ")", cups.charAt(i / 5 * 6 + i % 5) - '0');
        }
    }

    private static void claiming() {
        sentence(9, "1 to 25");
        Play x = new Play();
        x.ask("roll(2)");
        x.dueForAll(BAD, "claim(0, 2)", "claim(26, 2)", "claim(-1, 2)", "claim(LEAST, 2)", "claim(MOST, 2)");
        x.due("claim(1, 2)", 7);
        x.due("claim(25, 2)", 151);
        sentence(9, "1 to 6");
        x.dueForAll(BAD, "claim(25, 0)", "claim(25, 7)", "claim(25, -1)", "claim(25, LEAST)", "claim(25, MOST)");
        x.due("claim(25, 6)", 155);
        x.due("claim(25, 1)", 300);
        sentence(9, "Returns the rank of the claim; BAD; STATE if no dice are dealt");
        Play y = new Play();
        y.dueForAll(STATE, "claim(1, 2)", "claim(25, 1)");
        y.dueForAll(BAD, "claim(0, 2)", "claim(1, 0)", "claim(26, 1)", "claim(1, 7)", "claim(0, 0)");
        y.ask("roll(2)");
        y.due("claim(25, 1)", 300);
        y.due("claim(25, 1)", STATE);
        y.dueForAll(BAD, "claim(26, 1)", "claim(0, 1)");
        sentence(9, "for the player whose turn it is");
        y.due("count(4)", 25);
        y.due("count(5)", 1);
        y.due("count(6)", 0);
        y.due("count(2)", 1);
    }

    private static void ending() {
        sentence(10, "Returns the player who loses a die; STATE if there is no present claim.");
        Play x = Play.dealt(true, "/2/3");
        x.due("doubt()", STATE);
        x.ask("claim(1, 2)");
        x.due("doubt()", 2);
        x.due("doubt()", STATE);
        x.due("undo()", 7);
        x.ask("claim(2, 2)");
        x.due("doubt()", 2);
        x.due("player(2, 0)", 0);
        x.due("count(8)", x.ask("count(9)"));
        sentence(11, "Returns 1 if it is, otherwise 0; STATE if there is no present claim.");
        Play y = Play.dealt(true, "/2/3");
        y.due("callExact()", STATE);
        y.ask("claim(1, 2)");
        y.due("callExact()", 1);
        y.due("callExact()", STATE);
        y.due("undo()", 7);
        y.ask("claim(2, 2)");
        y.due("callExact()", 0);
        y.due("callExact()", STATE);
    }

    // ---- promises 14 to 17

    private static void playersTold() {
        sentence(14, "0 for the number of dice, 1 for the number of rounds that the player lost a die in");
        Play x = Play.withDice(true, 0, 3, 5);
        x.dueForAll(BAD, "player(0, -1)", "player(0, 3)", "player(0, LEAST)", "player(0, MOST)");
        x.dueForAll(BAD, "player(-1, 0)", "player(3, 0)", "player(LEAST, 0)", "player(MOST, 2)");
        x.due("player(0, 0)", 0);
        x.due("player(0, 1)", 5);
        x.due("player(1, 1)", 2);
        x.due("player(2, 0)", 5);
        x.due("player(2, 1)", 0);
        sentence(14, "that of rounds that the player won by calling exact (also without winning a die)");
        x.deal("333/44444");
        x.ask("claim(3, 3)");
        x.due("callExact()", 1);
        x.due("player(2, 0)", 5);
        x.due("player(2, 2)", 1);
        x.deal("333/44444");
        x.ask("claim(5, 4)");
        x.due("callExact()", 1);
        x.due("player(1, 0)", 4);
        x.due("player(1, 2)", 1);
        x.due("player(1, 1)", 2);
        x.deal("3333/44444");
        x.ask("claim(5, 3)");
        x.due("callExact()", 0);
        x.due("player(2, 0)", 4);
        x.due("player(2, 1)", 1);
        x.due("player(2, 2)", 1);
        x.due("player(0, 2)", 0);
    }

    private static void diceTold() {
        sentence(15, "BAD if there is no such player, or i is negative");
        Play x = Play.dealt(true, "/14/235");
        x.dueForAll(BAD, "die(-1, 0)", "die(3, 0)", "die(LEAST, 0)", "die(MOST, 0)");
        x.dueForAll(BAD, "die(1, -1)", "die(0, -1)", "die(1, LEAST)", "die(3, 5)", "die(-1, -1)");
        sentence(15, "NONE if no dice are dealt, or the player has not so many");
        x.due("die(1, 0)", 1);
        x.due("die(1, 1)", 4);
        x.due("die(2, 0)", 2);
        x.due("die(2, 2)", 5);
        x.dueForAll(NONE, "die(1, 2)", "die(2, 3)", "die(2, 4)", "die(2, 5)", "die(2, MOST)", "die(0, 0)", "die(0, MOST)");
        x.ask("claim(1, 2)");
        x.due("die(2, 2)", 5);
        x.ask("doubt()");
        x.dueForAll(NONE, "die(1, 0)", "die(2, 2)", "die(0, 0)");
        x.dueForAll(BAD, "die(3, 0)", "die(1, -1)");
    }

    private static void countingTold() {
        sentence(16, "the player, or -1 for all");
        Play x = Play.dealt(true, "/14/235");
        x.dueForAll(BAD, "counting(-2, 1)", "counting(3, 1)", "counting(LEAST, 1)", "counting(MOST, 1)");
        x.due("counting(-1, 2)", 2);
        x.due("counting(0, 2)", 0);
        x.due("counting(1, 2)", 1);
        x.due("counting(2, 2)", 1);
        sentence(16, "1 to 6");
        x.dueForAll(BAD, "counting(-1, 0)", "counting(-1, 7)", "counting(1, 0)", "counting(1, 7)", "counting(1, LEAST)");
        x.due("counting(-1, 1)", 1);
        x.due("counting(-1, 6)", 1);
        sentence(16, "Returns the number (0 if no dice are dealt); BAD.");
        x.ask("undo()");
        x.dueForAll(0, "counting(-1, 2)", "counting(1, 2)", "counting(0, 1)");
        x.dueForAll(BAD, "counting(-1, 0)", "counting(-1, 7)", "counting(-2, 1)", "counting(3, 1)");
    }

    private static void ranksTold() {
        sentence(17, "1 to 25");
        Play x = new Play();
        x.dueForAll(BAD, "rank(0, 1)", "rank(26, 1)", "rank(-1, 1)", "rank(LEAST, 1)", "rank(MOST, 1)");
        sentence(17, "1 to 6");
        x.dueForAll(BAD, "rank(1, 0)", "rank(1, 7)", "rank(25, 0)", "rank(25, 7)", "rank(1, LEAST)", "rank(1, MOST)");
        x.ask("roll(3)");
        x.ask("claim(25, 1)");
        x.due("rank(1, 2)", 7);
        x.dueForAll(BAD, "rank(0, 2)", "rank(26, 2)");
    }
}
