/** A test for each promise of the document, by its number: ordinary inputs, edges, wrong inputs. */
public final class PromiseTests {
    private static final int BAD = -1000, STATE = -1001, FULL = -1002, NONE = -1003;
    private static final int LEAST = Integer.MIN_VALUE, MOST = Integer.MAX_VALUE;

    private static int wrong = 0;
    private static int promise = 0;

    public static void main(String[] args) {
        newObject();
        typing();
        clearing();
        faultsOfDice();
        faultsOfMatrices();
        newGames();
        wildOnes();
        dealing();
        rolling();
        claiming();
        doubting();
        callingExact();
        orderOfTurns();
        settingMatrices();
        undoing();
        playersTold();
        diceTold();
        diceCounted();
        ranks();
        chances();
        chancesAsFloats();
        bestClaims();
        advices();
        entries();
        values();
        shares();
        saddles();
        counts();
        digests();
        System.out.println(wrong == 0 ? "every promise holds" : wrong + " answers are not as due");
        if (wrong != 0) {
            System.exit(1);
        }
    }

    private static void due(String call, long got, long want) {
        if (got != want) {
            wrong++;
            System.out.println("promise " + promise + ": " + call + " answered " + got + ", due is " + want);
        }
    }

    private static void write(CupClaims x, String text) {
        x.clearText();
        for (int i = 0; i < text.length(); i++) {
            due("type in '" + text + "'", x.type(text.charAt(i)), i + 1);
        }
    }

    private static CupClaims dealt(int players, boolean wild, String dice) {
        CupClaims x = new CupClaims();
        x.newGame(players);
        x.setWild(wild);
        write(x, dice);
        due("deal() of " + dice, x.deal(), dice.replaceAll("[ /]", "").length());
        return x;
    }

    private static CupClaims withMatrix(String text) {
        CupClaims x = new CupClaims();
        write(x, text);
        due("setMatrix() of " + text, x.setMatrix() > 0 ? 1 : 0, 1);
        return x;
    }

    /** The one who begins claims what is wrong, the next one doubts it: the one who begins loses a die. */
    private static void loseOne(CupClaims x) {
        x.roll(1);
        x.claim(25, x.count(7) == 1 ? 1 : 6);
        x.doubt();
    }

    private static long hash(long... numbers) {
        long h = 131;
        for (long number : numbers) {
            h = 31 * h + number;
        }
        return h;
    }

    private static void newObject() {
        promise = 1;
        CupClaims x = new CupClaims();
        int[] numbers = {2, 2, 0, 0, NONE, NONE, NONE, 1, 0, 0, 1, 1, 0, 0};
        for (int what = 0; what < numbers.length; what++) {
            due("count(" + what + ")", x.count(what), numbers[what]);
        }
        for (int p = 0; p < 2; p++) {
            due("player(p, 0)", x.player(p, 0), 5);
            due("player(p, 1)", x.player(p, 1), 0);
            due("player(p, 2)", x.player(p, 2), 0);
            due("die(p, 0)", x.die(p, 0), NONE);
        }
        due("entry(0, 0)", x.entry(0, 0), 0);
        due("entry(0, 1)", x.entry(0, 1), BAD);
        due("value(false)", x.value(false), 0);
        due("value(true)", x.value(true), 1);
        due("clearText()", x.clearText(), 0);
        due("undo()", x.undo(), STATE);
        CupClaims other = new CupClaims();
        other.newGame(4);
        other.type('1');
        due("count(0) beside another object", x.count(0), 2);
        due("count(13) beside another object", x.count(13), 0);
        due("BAD", CupClaims.BAD, BAD);
        due("STATE", CupClaims.STATE, STATE);
        due("FULL", CupClaims.FULL, FULL);
        due("NONE", CupClaims.NONE, NONE);
    }

    private static void typing() {
        promise = 2;
        CupClaims x = new CupClaims();
        due("type(-1)", x.type(-1), BAD);
        due("type(128)", x.type(128), BAD);
        due("type(LEAST)", x.type(LEAST), BAD);
        due("type(MOST)", x.type(MOST), BAD);
        due("type(0)", x.type(0), 1);
        due("type(127)", x.type(127), 2);
        for (int length = 3; length <= 60; length++) {
            due("type(65)", x.type(65), length);
        }
        due("type(65), full", x.type(65), FULL);
        due("type(128), full: BAD comes first", x.type(128), BAD);
        due("count(13), full", x.count(13), 60);
        due("count(12): a text is no change", x.count(12), 0);
    }

    private static void clearing() {
        promise = 3;
        CupClaims x = new CupClaims();
        due("clearText(), empty", x.clearText(), 0);
        write(x, "12 3");
        due("clearText()", x.clearText(), 4);
        due("clearText(), again", x.clearText(), 0);
        due("count(13)", x.count(13), 0);
        due("count(12)", x.count(12), 0);
        for (int i = 0; i < 61; i++) {
            x.type(32);
        }
        due("clearText(), full", x.clearText(), 60);
        due("type(65)", x.type(65), 1);
    }

    private static void dueFault(CupClaims x, boolean matrix, String text, int want) {
        write(x, text);
        due("fault(" + matrix + ") of '" + text + "'", x.fault(matrix), want);
    }

    private static void faultsOfDice() {
        promise = 4;
        CupClaims x = new CupClaims();
        dueFault(x, false, "", 0);
        dueFault(x, false, "   ", 3);
        dueFault(x, false, "11111/22222", NONE);
        dueFault(x, false, "  1 2 3  45 /  66666 ", NONE);
        dueFault(x, false, "11111", 5);
        dueFault(x, false, "11111/", 6);
        dueFault(x, false, "11111/2222", 10);
        dueFault(x, false, "11111/2222  ", 12);
        dueFault(x, false, "1111/22222", 4);
        dueFault(x, false, "/", 0);
        dueFault(x, false, "11111//", 6);
        dueFault(x, false, "111111/22222", 5);
        dueFault(x, false, "11111/222222", 11);
        dueFault(x, false, "11111/22222/", 11);
        dueFault(x, false, "11111/22222 /33333", 12);
        dueFault(x, false, "11011/22222", 2);
        dueFault(x, false, "11171/22222", 3);
        dueFault(x, false, "1111-", 4);
        dueFault(x, false, "\t11111/22222", 0);
        dueFault(x, false, "11111/22222x", 11);
        faultsOfDiceOfFewer();
    }

    private static void faultsOfDiceOfFewer() {
        CupClaims x = new CupClaims();
        x.newGame(3);
        for (int i = 0; i < 5; i++) {
            loseOne(x);
        }
        due("player(0, 0), who lost five times", x.player(0, 0), 0);
        dueFault(x, false, "22222/33333", NONE);
        dueFault(x, false, "/22222/33333", 0);
        dueFault(x, false, "22222/33333/", 11);
        for (int i = 0; i < 4; i++) {
            loseOne(x);
        }
        dueFault(x, false, "2/33333", NONE);
        dueFault(x, false, "22/33333", 1);
        loseOne(x);
        due("count(1), the game is over", x.count(1), 1);
        dueFault(x, false, "33333", NONE);
        dueFault(x, false, "3333", 4);
        dueFault(x, false, "33333/", 5);
    }

    private static void faultsOfMatrices() {
        CupClaims x = new CupClaims();
        dueFault(x, true, "", 0);
        dueFault(x, true, "  ", 2);
        dueFault(x, true, "0", NONE);
        dueFault(x, true, " -99 ", NONE);
        dueFault(x, true, "1 2 3 4/1 2 3 4/1 2 3 4/1 2 3 4", NONE);
        dueFault(x, true, "1 2 3 4 5", 8);
        dueFault(x, true, "1 2 3 4-5", 7);
        dueFault(x, true, "1 2 3 4 /", 9);
        dueFault(x, true, "1 2/3", 5);
        dueFault(x, true, "1 2/3 ", 6);
        dueFault(x, true, "1 2/3/", 5);
        dueFault(x, true, "1 2/3 4 5", 8);
        dueFault(x, true, "1 2/3 4-", 7);
        dueFault(x, true, "1/2/3/4/", 7);
        dueFault(x, true, "1/2/3/4", NONE);
        dueFault(x, true, "/", 0);
        dueFault(x, true, "1//", 2);
        dueFault(x, true, "123", 2);
        dueFault(x, true, "-123", 3);
        dueFault(x, true, "1-2-3-4", NONE);
        dueFault(x, true, "12-34", NONE);
        dueFault(x, true, "-", 1);
        dueFault(x, true, "- 1", 1);
        dueFault(x, true, "--1", 1);
        dueFault(x, true, "-/1", 1);
        dueFault(x, true, "1 2/3-", 6);
        dueFault(x, true, "00 -0 -00", NONE);
        dueFault(x, true, "1 / 2 ", NONE);
        dueFault(x, true, "1,2", 1);
        dueFault(x, true, "1\t", 1);
        dueFault(x, true, "+1", 0);
        due("count(12): a fault is no change", x.count(12), 0);
    }

    private static void newGames() {
        promise = 5;
        CupClaims x = new CupClaims();
        due("newGame(1)", x.newGame(1), BAD);
        due("newGame(6)", x.newGame(6), BAD);
        due("newGame(LEAST)", x.newGame(LEAST), BAD);
        due("newGame(MOST)", x.newGame(MOST), BAD);
        due("count(12)", x.count(12), 0);
        due("newGame(5)", x.newGame(5), 2);
        due("newGame(2)", x.newGame(2), 5);
        due("newGame(2)", x.newGame(2), 2);
        due("newGame(3)", x.newGame(3), 2);
        due("count(12)", x.count(12), 4);
        write(x, "1 2/3 4");
        x.setMatrix();
        x.setWild(false);
        loseOne(x);
        x.roll(5);
        x.claim(1, 2);
        due("count(6)", x.count(6), 0);
        due("newGame(4), amid a round", x.newGame(4), 3);
        int[] numbers = {4, 4, 0, 0, NONE, NONE, NONE, 0, 0, 0, 2, 2, 8, 7};
        for (int what = 0; what < numbers.length; what++) {
            due("count(" + what + ")", x.count(what), numbers[what]);
        }
        due("player(0, 0)", x.player(0, 0), 5);
        due("player(0, 1)", x.player(0, 1), 0);
        due("player(3, 0)", x.player(3, 0), 5);
        due("die(0, 0)", x.die(0, 0), NONE);
        due("value(false)", x.value(false), 3);
    }

    private static void wildOnes() {
        promise = 6;
        CupClaims x = dealt(2, true, "11234/11345");
        due("setWild(false), dealt", x.setWild(false), 1);
        due("counting(-1, 3)", x.counting(-1, 3), 2);
        due("count(7)", x.count(7), 0);
        due("setWild(false), again", x.setWild(false), 0);
        due("setWild(true)", x.setWild(true), 0);
        due("counting(-1, 3)", x.counting(-1, 3), 6);
        int before = x.count(12);
        x.claim(2, 3);
        due("setWild(false), behind a claim", x.setWild(false), STATE);
        due("setWild(true), behind a claim", x.setWild(true), STATE);
        due("count(7)", x.count(7), 1);
        due("count(12)", x.count(12), before + 1);
        x.doubt();
        due("setWild(false), behind a round", x.setWild(false), 1);
    }

    private static void dealing() {
        promise = 7;
        CupClaims x = new CupClaims();
        due("deal(), no text", x.deal(), STATE);
        write(x, " 1 2345/ 66 543 ");
        due("deal()", x.deal(), 10);
        due("count(13): the text stays", x.count(13), 16);
        int[] dice = {1, 2, 3, 4, 5, 6, 6, 5, 4, 3};
        for (int i = 0; i < 10; i++) {
            due("die", x.die(i / 5, i % 5), dice[i]);
        }
        due("deal(), dealt", x.deal(), STATE);
        due("count(12)", x.count(12), 1);
        x.claim(25, 1);
        x.doubt();
        due("deal(), with a die too many", x.deal(), STATE);
        write(x, "1111/22222");
        due("deal(), of nine", x.deal(), 9);
        due("die(0, 4)", x.die(0, 4), NONE);
        due("die(1, 4)", x.die(1, 4), 2);
        CupClaims y = new CupClaims();
        for (int i = 0; i < 5; i++) {
            loseOne(y);
        }
        write(y, "11111");
        due("fault(false), the game is over", y.fault(false), NONE);
        due("deal(), the game is over", y.deal(), STATE);
    }

    private static void rolling() {
        promise = 8;
        CupClaims x = new CupClaims();
        due("roll(-1)", x.roll(-1), BAD);
        due("roll(65536)", x.roll(65536), BAD);
        due("roll(LEAST)", x.roll(LEAST), BAD);
        due("roll(0)", x.roll(0), 10);
        int seed = 0;
        for (int i = 0; i < 10; i++) {
            seed = (seed * 1103 + 377) % 65536;
            due("die of seed 0", x.die(i / 5, i % 5), 1 + seed / 7 % 6);
        }
        due("die(0, 0) of seed 0: 377 / 7 % 6 is 5", x.die(0, 0), 6);
        due("roll(0), dealt", x.roll(0), STATE);
        due("roll(65536), dealt: BAD comes first", x.roll(65536), BAD);
        CupClaims y = new CupClaims();
        y.newGame(5);
        due("roll(65535)", y.roll(65535), 25);
        due("die(0, 0) of seed 65535: 64810 / 7 % 6 is 0", y.die(0, 0), 1 + 64810 / 7 % 6);
        CupClaims z = new CupClaims();
        for (int i = 0; i < 5; i++) {
            loseOne(z);
        }
        due("count(1)", z.count(1), 1);
        due("roll(1), the game is over", z.roll(1), STATE);
        due("roll(-1), the game is over", z.roll(-1), BAD);
    }

    private static void claiming() {
        promise = 9;
        CupClaims x = new CupClaims();
        due("claim(1, 2), not dealt", x.claim(1, 2), STATE);
        due("claim(0, 2), not dealt: BAD comes first", x.claim(0, 2), BAD);
        x.roll(7);
        due("claim(0, 2)", x.claim(0, 2), BAD);
        due("claim(26, 2)", x.claim(26, 2), BAD);
        due("claim(1, 0)", x.claim(1, 0), BAD);
        due("claim(1, 7)", x.claim(1, 7), BAD);
        due("claim(MOST, LEAST)", x.claim(MOST, LEAST), BAD);
        due("count(12)", x.count(12), 1);
        due("claim(1, 6)", x.claim(1, 6), 11);
        due("count(2)", x.count(2), 1);
        due("count(4)", x.count(4), 1);
        due("count(5)", x.count(5), 6);
        due("count(6)", x.count(6), 0);
        due("claim(1, 6), again", x.claim(1, 6), STATE);
        due("claim(1, 5), less", x.claim(1, 5), STATE);
        due("claim(26, 5)", x.claim(26, 5), BAD);
        due("claim(1, 1), more than a six", x.claim(1, 1), 12);
        due("claim(2, 2), more than a one", x.claim(2, 2), 13);
        due("count(6)", x.count(6), 0);
        due("count(2)", x.count(2), 1);
        due("claim(25, 6)", x.claim(25, 6), 155);
        due("claim(12, 1)", x.claim(12, 1), STATE);
        due("claim(13, 1)", x.claim(13, 1), 156);
        due("claim(25, 1)", x.claim(25, 1), 300);
        due("claim(25, 6)", x.claim(25, 6), STATE);
        CupClaims y = dealt(2, false, "11111/22222");
        due("claim(1, 1), not wild", y.claim(1, 1), 7);
        due("claim(1, 2), not wild", y.claim(1, 2), 8);
        due("claim(1, 1), less", y.claim(1, 1), STATE);
        due("claim(2, 1), not wild", y.claim(2, 1), 13);
    }

    private static void doubting() {
        promise = 10;
        CupClaims x = new CupClaims();
        due("doubt(), not dealt", x.doubt(), STATE);
        write(x, "12333/33456");
        x.deal();
        due("doubt(), no claim", x.doubt(), STATE);
        x.claim(6, 3);
        due("doubt() of the right claim", x.doubt(), 1);
        due("player(1, 0)", x.player(1, 0), 4);
        due("player(1, 1)", x.player(1, 1), 1);
        due("player(0, 1)", x.player(0, 1), 0);
        due("count(2)", x.count(2), 1);
        due("count(3)", x.count(3), 0);
        due("count(4)", x.count(4), NONE);
        due("count(8)", x.count(8), 1);
        due("count(9)", x.count(9), 0);
        due("doubt(), behind the round", x.doubt(), STATE);
        write(x, "12333/3345");
        x.deal();
        x.claim(7, 3);
        due("doubt() of the wrong claim", x.doubt(), 1);
        due("player(1, 0)", x.player(1, 0), 3);
        due("count(2)", x.count(2), 1);
        due("count(8)", x.count(8), 2);
        due("count(9)", x.count(9), 1);
        due("die(0, 0)", x.die(0, 0), NONE);
        CupClaims y = dealt(2, false, "12333/33456");
        y.claim(6, 3);
        due("doubt() of six threes, not wild", y.doubt(), 0);
        due("count(9)", y.count(9), 1);
    }

    private static void callingExact() {
        promise = 11;
        CupClaims x = new CupClaims();
        due("callExact(), not dealt", x.callExact(), STATE);
        write(x, "12333/33456");
        x.deal();
        due("callExact(), no claim", x.callExact(), STATE);
        x.claim(6, 3);
        due("callExact(), exact, with five dice", x.callExact(), 1);
        due("player(1, 0)", x.player(1, 0), 5);
        due("player(1, 1)", x.player(1, 1), 0);
        due("player(1, 2)", x.player(1, 2), 1);
        due("count(2)", x.count(2), 1);
        due("count(3)", x.count(3), 0);
        due("count(8)", x.count(8), 1);
        due("count(9)", x.count(9), 0);
        x.deal();
        x.claim(5, 3);
        due("callExact(), too few claimed", x.callExact(), 0);
        due("player(0, 0)", x.player(0, 0), 4);
        due("player(0, 1)", x.player(0, 1), 1);
        due("player(0, 2)", x.player(0, 2), 0);
        due("count(2)", x.count(2), 0);
        due("count(9): no doubt", x.count(9), 0);
        write(x, "3333/33456");
        x.deal();
        x.claim(1, 2);
        x.claim(7, 3);
        due("callExact(), too many claimed", x.callExact(), 0);
        due("player(0, 0)", x.player(0, 0), 3);
        write(x, "333/33456");
        x.deal();
        x.claim(1, 2);
        x.claim(5, 3);
        due("callExact(), exact", x.callExact(), 1);
        due("player(0, 0), one won", x.player(0, 0), 4);
        due("player(0, 2)", x.player(0, 2), 1);
        due("count(8)", x.count(8), 4);
    }

    private static void orderOfTurns() {
        CupClaims x = new CupClaims();
        x.newGame(3);
        for (int i = 0; i < 4; i++) {
            loseOne(x);
            due("count(2), the loser begins", x.count(2), 0);
        }
        loseOne(x);
        due("player(0, 0)", x.player(0, 0), 0);
        due("count(1)", x.count(1), 2);
        due("count(2), behind one who is out", x.count(2), 1);
        due("roll(3)", x.roll(3), 10);
        x.claim(1, 2);
        due("count(2)", x.count(2), 2);
        x.claim(1, 3);
        due("count(2), past one who is out", x.count(2), 1);
        due("count(6)", x.count(6), 2);
        x.claim(25, 1);
        due("doubt()", x.doubt(), 1);
        theLastOneGoesOut();
        theGameEnds();
    }

    private static void theLastOneGoesOut() {
        CupClaims x = new CupClaims();
        x.newGame(3);
        for (int i = 0; i < 5; i++) {
            x.roll(1);
            int turn = x.count(2);
            for (int n = 1; turn != 2; n++) {
                x.claim(n, 2);
                turn = x.count(2);
            }
            x.claim(25, 1);
            due("doubt(), player 2 loses", x.doubt(), 2);
        }
        due("player(2, 0)", x.player(2, 0), 0);
        due("count(2), behind the last one the first one", x.count(2), 0);
    }

    private static void theGameEnds() {
        CupClaims x = new CupClaims();
        for (int i = 0; i < 5; i++) {
            loseOne(x);
        }
        due("count(1)", x.count(1), 1);
        due("count(2), nobody's turn", x.count(2), NONE);
        due("count(3)", x.count(3), 0);
        due("count(8)", x.count(8), 5);
        due("count(9)", x.count(9), 5);
        due("player(0, 1)", x.player(0, 1), 5);
        due("claim(1, 2)", x.claim(1, 2), STATE);
        due("setWild(false), the game is over", x.setWild(false), 1);
        due("undo()", x.undo(), 7);
        due("undo()", x.undo(), 6);
        due("count(2), undone", x.count(2), 1);
        due("count(6), undone", x.count(6), 0);
        due("newGame(2)", x.newGame(2), 2);
        due("count(2)", x.count(2), 0);
    }

    private static void settingMatrices() {
        promise = 12;
        CupClaims x = new CupClaims();
        due("setMatrix(), no text", x.setMatrix(), STATE);
        write(x, "1 2 3/-4-5-6");
        due("setMatrix()", x.setMatrix(), 6);
        due("count(13): the text stays", x.count(13), 12);
        due("count(12)", x.count(12), 1);
        due("count(10)", x.count(10), 2);
        due("count(11)", x.count(11), 3);
        due("entry(1, 2)", x.entry(1, 2), -6);
        write(x, "1 2/3");
        due("setMatrix(), a row too short", x.setMatrix(), STATE);
        due("entry(1, 2)", x.entry(1, 2), -6);
        due("count(12)", x.count(12), 1);
        write(x, "99-99 07-0/1 2 3 4/5 6 7 8/-10 11-12 13");
        due("setMatrix()", x.setMatrix(), 16);
        int[] entries = {99, -99, 7, 0, 1, 2, 3, 4, 5, 6, 7, 8, -10, 11, -12, 13};
        for (int i = 0; i < 16; i++) {
            due("entry", x.entry(i / 4, i % 4), entries[i]);
        }
        write(x, "8");
        due("setMatrix()", x.setMatrix(), 1);
        due("value(false)", x.value(false), 8);
        x.roll(3);
        x.claim(1, 2);
        due("setMatrix(), amid a round", x.setMatrix(), 1);
    }

    private static void undoing() {
        promise = 13;
        CupClaims x = new CupClaims();
        due("undo(), nothing", x.undo(), STATE);
        write(x, "5 6");
        x.setMatrix();
        x.setWild(true);
        due("count(12): also if nothing becomes different", x.count(12), 2);
        x.setWild(false);
        x.newGame(3);
        x.roll(17);
        int die = x.die(2, 4);
        x.claim(2, 5);
        x.claim(25, 6);
        x.doubt();
        due("count(12)", x.count(12), 8);
        due("count(2)", x.count(2), 1);
        due("undo() of the doubt", x.undo(), 7);
        due("count(2)", x.count(2), 2);
        due("count(4)", x.count(4), 25);
        due("count(5)", x.count(5), 6);
        due("count(6)", x.count(6), 1);
        due("count(8)", x.count(8), 0);
        due("count(9)", x.count(9), 0);
        due("player(1, 0)", x.player(1, 0), 5);
        due("player(1, 1)", x.player(1, 1), 0);
        due("die(2, 4)", x.die(2, 4), die);
        due("undo() of the second claim", x.undo(), 6);
        due("count(4)", x.count(4), 2);
        due("undo() of the first claim", x.undo(), 5);
        due("count(4)", x.count(4), NONE);
        due("count(2)", x.count(2), 0);
        due("undo() of the roll", x.undo(), 4);
        due("die(2, 4)", x.die(2, 4), NONE);
        due("undo() of the new game", x.undo(), 3);
        due("count(0)", x.count(0), 2);
        due("count(7)", x.count(7), 0);
        due("undo() of setWild(false)", x.undo(), 2);
        due("count(7)", x.count(7), 1);
        due("undo() of setWild(true)", x.undo(), 1);
        x.clearText();
        due("undo() of the matrix", x.undo(), 0);
        due("count(11)", x.count(11), 1);
        due("value(false)", x.value(false), 0);
        due("count(13): the text does not belong to a state", x.count(13), 0);
        due("undo()", x.undo(), STATE);
        anOldStateIsDropped();
    }

    private static void anOldStateIsDropped() {
        CupClaims x = new CupClaims();
        for (int i = 0; i < 21; i++) {
            x.newGame(2 + i % 4);
            due("count(12)", x.count(12), Math.min(8, i + 1));
        }
        x.newGame(9);
        due("count(12): an error changes nothing", x.count(12), 8);
        for (int i = 19; i >= 12; i--) {
            due("undo()", x.undo(), i - 12);
            due("count(0)", x.count(0), 2 + i % 4);
        }
        due("undo(), more than eight", x.undo(), STATE);
        x.newGame(5);
        due("undo()", x.undo(), 0);
        due("count(0)", x.count(0), 2);
    }

    private static void playersTold() {
        promise = 14;
        CupClaims x = new CupClaims();
        x.newGame(3);
        due("player(2, 0)", x.player(2, 0), 5);
        due("player(3, 0)", x.player(3, 0), BAD);
        due("player(-1, 0)", x.player(-1, 0), BAD);
        due("player(0, -1)", x.player(0, -1), BAD);
        due("player(0, 3)", x.player(0, 3), BAD);
        due("player(MOST, LEAST)", x.player(MOST, LEAST), BAD);
        loseOne(x);
        loseOne(x);
        due("player(0, 0)", x.player(0, 0), 3);
        due("player(0, 1)", x.player(0, 1), 2);
        due("player(0, 2)", x.player(0, 2), 0);
        due("player(1, 0)", x.player(1, 0), 5);
        due("player(1, 1)", x.player(1, 1), 0);
    }

    private static void diceTold() {
        promise = 15;
        CupClaims x = new CupClaims();
        due("die(0, 0), not dealt", x.die(0, 0), NONE);
        due("die(0, -1), not dealt", x.die(0, -1), BAD);
        due("die(2, 0), not dealt", x.die(2, 0), BAD);
        write(x, "12345/65432");
        x.deal();
        due("die(0, 2)", x.die(0, 2), 3);
        due("die(1, 0)", x.die(1, 0), 6);
        due("die(1, 4)", x.die(1, 4), 2);
        due("die(1, 5)", x.die(1, 5), NONE);
        due("die(0, MOST)", x.die(0, MOST), NONE);
        due("die(0, LEAST)", x.die(0, LEAST), BAD);
        due("die(-1, 0)", x.die(-1, 0), BAD);
        due("die(2, 0)", x.die(2, 0), BAD);
        CupClaims y = new CupClaims();
        y.newGame(3);
        for (int i = 0; i < 5; i++) {
            loseOne(y);
        }
        y.roll(4);
        due("die(0, 0), who is out", y.die(0, 0), NONE);
        due("die(1, 0) > 0", y.die(1, 0) > 0 ? 1 : 0, 1);
    }

    private static void diceCounted() {
        promise = 16;
        CupClaims x = new CupClaims();
        due("counting(-1, 3), not dealt", x.counting(-1, 3), 0);
        due("counting(-1, 7), not dealt", x.counting(-1, 7), BAD);
        write(x, "11233/13456");
        x.deal();
        due("counting(-1, 3)", x.counting(-1, 3), 6);
        due("counting(0, 3)", x.counting(0, 3), 4);
        due("counting(1, 3)", x.counting(1, 3), 2);
        due("counting(-1, 1)", x.counting(-1, 1), 3);
        due("counting(-1, 2)", x.counting(-1, 2), 4);
        due("counting(-2, 3)", x.counting(-2, 3), BAD);
        due("counting(2, 3)", x.counting(2, 3), BAD);
        due("counting(0, 0)", x.counting(0, 0), BAD);
        due("counting(0, 7)", x.counting(0, 7), BAD);
        x.setWild(false);
        due("counting(-1, 3), not wild", x.counting(-1, 3), 3);
        due("counting(-1, 1), not wild", x.counting(-1, 1), 3);
        x.claim(9, 3);
        x.doubt();
        due("counting(-1, 3), behind the round", x.counting(-1, 3), 0);
    }

    private static void ranks() {
        promise = 17;
        CupClaims x = new CupClaims();
        boolean[] wilds = {true, false};
        for (boolean wild : wilds) {
            x.setWild(wild);
            for (int n = 1; n <= 25; n++) {
                for (int face = 1; face <= 6; face++) {
                    int want = !wild ? 6 * n + face : face == 1 ? 12 * n : 6 * n + face - 1;
                    due("rank(" + n + ", " + face + ")", x.rank(n, face), want);
                }
            }
            due("rank(0, 1)", x.rank(0, 1), BAD);
            due("rank(26, 1)", x.rank(26, 1), BAD);
            due("rank(1, 0)", x.rank(1, 0), BAD);
            due("rank(1, 7)", x.rank(1, 7), BAD);
            due("rank(LEAST, MOST)", x.rank(LEAST, MOST), BAD);
        }
    }

    private static void dueChance(CupClaims x, int p, int n, int face, long... want) {
        for (int what = 0; what < 4; what++) {
            due("chance(" + p + ", " + n + ", " + face + ", " + what + ")", x.chance(p, n, face, what), want[what]);
        }
    }

    private static void chances() {
        promise = 18;
        CupClaims x = new CupClaims();
        due("chance(0, 1, 1, 0), not dealt", x.chance(0, 1, 1, 0), STATE);
        due("chance(2, 1, 1, 0), not dealt: BAD comes first", x.chance(2, 1, 1, 0), BAD);
        x = dealt(2, true, "11222/33456");
        dueChance(x, 0, 6, 2, 211, 243, 80, 243);
        dueChance(x, 0, 5, 2, 1, 1, 32, 243);
        dueChance(x, 0, 4, 2, 1, 1, 0, 1);
        dueChance(x, 0, 10, 2, 1, 243, 1, 243);
        dueChance(x, 0, 11, 2, 0, 1, 0, 1);
        dueChance(x, 0, 3, 1, 4651, 7776, 3125, 7776);
        dueChance(x, 0, 2, 1, 1, 1, 3125, 7776);
        dueChance(x, 0, 25, 1, 0, 1, 0, 1);
        dueChance(x, 1, 3, 3, 211, 243, 80, 243);
        x.setWild(false);
        dueChance(x, 0, 4, 2, 4651, 7776, 3125, 7776);
        dueChance(x, 0, 5, 2, 763, 3888, 625, 3888);
        due("chance(-1, 1, 1, 0)", x.chance(-1, 1, 1, 0), BAD);
        due("chance(0, 0, 1, 0)", x.chance(0, 0, 1, 0), BAD);
        due("chance(0, 26, 1, 0)", x.chance(0, 26, 1, 0), BAD);
        due("chance(0, 1, 0, 0)", x.chance(0, 1, 0, 0), BAD);
        due("chance(0, 1, 7, 0)", x.chance(0, 1, 7, 0), BAD);
        due("chance(0, 1, 1, -1)", x.chance(0, 1, 1, -1), BAD);
        due("chance(0, 1, 1, 4)", x.chance(0, 1, 1, 4), BAD);
        CupClaims y = dealt(5, false, "66666/11111/11111/11111/11111");
        dueChance(y, 0, 25, 6, 1, 3656158440062976L, 1, 3656158440062976L);
        dueChance(y, 0, 6, 6, 3560791008422351L, 3656158440062976L,
                95367431640625L, 914039610015744L);
        oneWhoIsOut();
    }

    private static void oneWhoIsOut() {
        CupClaims x = new CupClaims();
        x.newGame(3);
        for (int i = 0; i < 5; i++) {
            loseOne(x);
        }
        x.roll(4);
        due("chance(0, 1, 1, 0), who is out", x.chance(0, 1, 1, 0), STATE);
        due("chance(0, 1, 1, 4), who is out: BAD comes first", x.chance(0, 1, 1, 4), BAD);
        due("chanceBits(0, 1, 1), who is out", x.chanceBits(0, 1, 1), STATE);
        due("bestClaim(0), who is out", x.bestClaim(0), STATE);
        due("chance(1, 25, 1, 1)", x.chance(1, 25, 1, 1), 1);
        due("chance(1, 11, 1, 0)", x.chance(1, 11, 1, 0), 0);
    }

    private static void chancesAsFloats() {
        promise = 19;
        CupClaims x = new CupClaims();
        due("chanceBits(0, 1, 1), not dealt", x.chanceBits(0, 1, 1), STATE);
        due("chanceBits(0, 26, 1), not dealt", x.chanceBits(0, 26, 1), BAD);
        x = dealt(2, true, "11222/33456");
        due("chanceBits of 1", x.chanceBits(0, 5, 2), 0x3f800000);
        due("chanceBits of 0", x.chanceBits(0, 11, 2), 0);
        due("chanceBits of 211/243", x.chanceBits(0, 6, 2), Float.floatToIntBits(211f / 243f));
        due("chanceBits of 4651/7776", x.chanceBits(0, 3, 1), Float.floatToIntBits(4651f / 7776f));
        due("chanceBits(2, 1, 1)", x.chanceBits(2, 1, 1), BAD);
        due("chanceBits(0, 0, 1)", x.chanceBits(0, 0, 1), BAD);
        due("chanceBits(0, 1, 7)", x.chanceBits(0, 1, 7), BAD);
        CupClaims y = dealt(5, false, "66666/11111/11111/11111/11111");
        due("chanceBits of 1/6^20", y.chanceBits(0, 25, 6), Float.floatToIntBits(1f / 3656158440062976f));
        due("chanceBits of 1 - (5/6)^20", y.chanceBits(0, 6, 6),
                Float.floatToIntBits(3560791008422351f / 3656158440062976f));
    }

    private static void bestClaims() {
        promise = 20;
        CupClaims x = new CupClaims();
        due("bestClaim(0), not dealt", x.bestClaim(0), STATE);
        due("bestClaim(2), not dealt: BAD comes first", x.bestClaim(2), BAD);
        x = dealt(2, true, "11111/22345");
        due("bestClaim(0): the least rank of the certain ones", x.bestClaim(0), 12);
        due("bestClaim(1): a two is certain", x.bestClaim(1), 12);
        x.claim(2, 3);
        due("bestClaim(0)", x.bestClaim(0), 24);
        due("bestClaim(1): the best of what is uncertain", x.bestClaim(1), 24);
        x.claim(5, 6);
        due("bestClaim(0): three ones are certain, and more than five sixes", x.bestClaim(0), 31);
        due("bestClaim(-1)", x.bestClaim(-1), BAD);
        due("bestClaim(2)", x.bestClaim(2), BAD);
        x.claim(11, 1);
        due("bestClaim(0): none has a chance, so the one of the least rank", x.bestClaim(0), 222);
        x.claim(25, 1);
        due("bestClaim(0): no claim has a greater rank", x.bestClaim(0), NONE);
        due("bestClaim(2), without a greater one", x.bestClaim(2), BAD);
        CupClaims y = dealt(2, false, "66655/22345");
        due("bestClaim(0), not wild", y.bestClaim(0), 15);
        y.claim(1, 5);
        due("bestClaim(0), not wild", y.bestClaim(0), 16);
        y.claim(3, 6);
        due("bestClaim(0), not wild: three dice must count, or two", y.bestClaim(0), 46);
        y.claim(25, 6);
        due("bestClaim(0)", y.bestClaim(0), NONE);
    }

    private static void advices() {
        promise = 21;
        CupClaims x = new CupClaims();
        due("advice(), not dealt", x.advice(), STATE);
        x = dealt(2, true, "11111/22345");
        due("advice(), without a claim", x.advice(), 0);
        x.claim(1, 2);
        due("advice(): a greater one is certain", x.advice(), 0);
        x.claim(10, 6);
        due("advice(): hardly right", x.advice(), 1);
        x.claim(25, 1);
        due("advice(), without a greater one", x.advice(), 1);
        x.doubt();
        due("advice(), behind the round", x.advice(), STATE);
        CupClaims y = dealt(5, false, "11111/66666/22222/33333/44444");
        y.claim(25, 6);
        due("advice(), without a greater one, of one that may be right", y.advice(), 1);
        exactIsBest();
    }

    /** Player 1 loses so many dice, who claims what is wrong. */
    private static void lose(CupClaims x, int dice) {
        for (int i = 0; i < dice; i++) {
            if (i > 0) {
                x.roll(i);
            }
            for (int n = 1; x.count(2) != 1; n++) {
                x.claim(n, 2);
            }
            x.claim(25, x.count(7) == 1 ? 1 : 6);
            due("doubt()", x.doubt(), 1);
        }
    }

    private static void exactIsBest() {
        CupClaims x = dealt(2, false, "22233/44455");
        lose(x, 4);
        write(x, "55666/6");
        x.deal();
        x.claim(3, 6);
        due("count(2)", x.count(2), 0);
        due("advice(): 0, 5/6, 1/6", x.advice(), 2);
        x.undo();
        x.claim(2, 6);
        due("advice(): three sixes are certain", x.advice(), 0);
        x.undo();
        x.claim(3, 4);
        due("advice(): 1, 0, 1", x.advice(), 1);
        x.undo();
        x.claim(4, 6);
        due("advice(): 5/6, 1/6, 0", x.advice(), 1);
    }

    private static void entries() {
        promise = 22;
        CupClaims x = withMatrix("1-2 3/4 5-6");
        int[] entries = {1, -2, 3, 4, 5, -6};
        for (int i = 0; i < 6; i++) {
            due("entry", x.entry(i / 3, i % 3), entries[i]);
        }
        due("entry(2, 0)", x.entry(2, 0), BAD);
        due("entry(0, 3)", x.entry(0, 3), BAD);
        due("entry(-1, 0)", x.entry(-1, 0), BAD);
        due("entry(0, -1)", x.entry(0, -1), BAD);
        due("entry(MOST, LEAST)", x.entry(MOST, LEAST), BAD);
    }

    private static void dueValue(String text, long numerator, long denominator) {
        CupClaims x = withMatrix(text);
        due("value(false) of " + text, x.value(false), numerator);
        due("value(true) of " + text, x.value(true), denominator);
    }

    private static void values() {
        promise = 23;
        dueValue("7", 7, 1);
        dueValue("-99", -99, 1);
        dueValue("3 1 2", 1, 1);
        dueValue("3/1/9", 9, 1);
        dueValue("1-1/-1 1", 0, 1);
        dueValue("0-1 1/1 0-1/-1 1 0", 0, 1);
        dueValue("2 0/0 1", 2, 3);
        dueValue("-2 0/0-1", -2, 3);
        dueValue("2-3/-3 4", -1, 12);
        dueValue("4 0 0 0/0 3 0 0/0 0 2 0/0 0 0 1", 12, 25);
        dueValue("99-99-99-99/-99 99-99-99/-99-99 99-99/-99-99-99 99", -99, 2);
        CupClaims x = withMatrix("1-1/-1 2");
        due("value(true)", x.value(true), 5);
        x.undo();
        due("value(false), undone", x.value(false), 0);
        due("value(true), undone", x.value(true), 1);
        dueValuesInTurn("5/9", 9, "5", 5);
        dueValuesInTurn("9 5", 5, "9", 9);
        dueValuesInTurn("1 2/3 0", 3, "1 2", 1);
    }

    /** The second matrix is a corner of the first one. */
    private static void dueValuesInTurn(String text, long value, String corner, long valueOfCorner) {
        CupClaims x = withMatrix(text);
        for (int i = 0; i < 2; i++) {
            write(x, corner);
            x.setMatrix();
            due("value(false) of " + corner + " behind " + text, x.value(false), valueOfCorner);
            write(x, text);
            x.setMatrix();
            due("value(false) of " + text + " behind " + corner, x.value(false), value);
        }
        x.undo();
        due("value(false) of " + corner + ", undone", x.value(false), valueOfCorner);
    }

    private static void dueShares(String text, boolean column, long... want) {
        CupClaims x = withMatrix(text);
        for (int i = 0; i < want.length / 2; i++) {
            due("share(" + column + ", " + i + ", false) of " + text, x.share(column, i, false), want[2 * i]);
            due("share(" + column + ", " + i + ", true) of " + text, x.share(column, i, true), want[2 * i + 1]);
        }
        due("share behind the last of " + text, x.share(column, want.length / 2, false), BAD);
        due("share ahead of the first of " + text, x.share(column, -1, true), BAD);
    }

    private static void shares() {
        promise = 24;
        dueShares("2 0/0 1", false, 1, 3, 2, 3);
        dueShares("2-3/-3 4", false, 7, 12, 5, 12);
        dueShares("2-3/-3 4", true, 7, 12, 5, 12);
        dueShares("3 1 2", false, 1, 1);
        dueShares("3 1 2", true, 0, 1, 1, 1, 0, 1);
        dueShares("0-1 1/1 0-1/-1 1 0", false, 1, 3, 1, 3, 1, 3);
        dueShares("4 0 0 0/0 3 0 0/0 0 2 0/0 0 0 1", true, 3, 25, 4, 25, 6, 25, 12, 25);
        // of several with one row, the first row, and the first column
        dueShares("0 0/0 0", false, 1, 1, 0, 1);
        dueShares("0 0/0 0", true, 1, 1, 0, 1);
        // rows 0 and 1 as well as rows 2 and 3; columns 0 and 1 ahead of others
        dueShares("1-1/-1 1/1-1/-1 1", false, 1, 2, 1, 2, 0, 1, 0, 1);
        dueShares("1-1 1-1/-1 1-1 1", true, 1, 2, 1, 2, 0, 1, 0, 1);
        // rows 0 and 2 are 5, less than rows 1 and 2, which are 6
        dueShares("1-1/1-1/-1 1", false, 1, 2, 0, 1, 1, 2);
        CupClaims x = withMatrix("1 2/3 4/5 6");
        due("share(false, 2, false)", x.share(false, 2, false), 1);
        due("share(false, 3, false)", x.share(false, 3, false), BAD);
        due("share(true, 2, false)", x.share(true, 2, false), BAD);
        due("share(true, LEAST, true)", x.share(true, LEAST, true), BAD);
        due("share(false, MOST, true)", x.share(false, MOST, true), BAD);
    }

    private static void saddles() {
        promise = 25;
        CupClaims x = withMatrix("3 1 2/4 1 5/0 1-1");
        int[] saddles = {0, 1, 0, 0, 1, 0, 0, 0, 0};
        for (int i = 0; i < 9; i++) {
            due("saddle(" + i / 3 + ", " + i % 3 + ")", x.saddle(i / 3, i % 3), saddles[i]);
        }
        due("saddle(3, 0)", x.saddle(3, 0), BAD);
        due("saddle(0, 3)", x.saddle(0, 3), BAD);
        due("saddle(-1, 0)", x.saddle(-1, 0), BAD);
        due("saddle(0, -1)", x.saddle(0, -1), BAD);
        CupClaims y = withMatrix("1-1/-1 1");
        for (int i = 0; i < 4; i++) {
            due("saddle of none", y.saddle(i / 2, i % 2), 0);
        }
    }

    private static void counts() {
        promise = 26;
        CupClaims x = new CupClaims();
        due("count(-1)", x.count(-1), BAD);
        due("count(14)", x.count(14), BAD);
        due("count(LEAST)", x.count(LEAST), BAD);
        due("count(MOST)", x.count(MOST), BAD);
        x.newGame(3);
        write(x, "1 2 3/4 5 6");
        x.setMatrix();
        x.setWild(false);
        loseOne(x);
        x.roll(2);
        x.claim(1, 3);
        x.claim(2, 4);
        int[] numbers = {3, 3, 2, 1, 2, 4, 1, 0, 1, 1, 2, 3, 8, 11};
        for (int what = 0; what < numbers.length; what++) {
            due("count(" + what + ")", x.count(what), numbers[what]);
        }
    }

    private static void digests() {
        promise = 27;
        CupClaims x = new CupClaims();
        due("digest() of a new object", x.digest(), hash(2, 2, 0, 0, NONE, NONE, NONE, 1, 0, 0, 1, 1, 0, 0,
                5, 0, 0, 5, 0, 0, 0, 0, 1, 1, 1, 1, 1));
        write(x, "2-3/-3 4");
        x.setMatrix();
        write(x, "12333/33456");
        x.deal();
        x.claim(6, 3);
        due("digest() amid a round", x.digest(), hash(2, 2, 1, 1, 6, 3, 0, 1, 0, 0, 2, 2, 3, 11,
                5, 0, 0, 1, 2, 3, 3, 3, 5, 0, 0, 3, 3, 4, 5, 6,
                x.bestClaim(0), 211 - 80, 243, x.bestClaim(1), 131, 243, x.advice(),
                2, -3, -3, 4, -1, 12, 7, 12, 5, 12, 7, 12, 5, 12,
                '1', '2', '3', '3', '3', '/', '3', '3', '4', '5', '6'));
        x.claim(25, 1);
        due("bestClaim(0)", x.bestClaim(0), NONE);
        due("digest() without a greater claim", x.digest(), hash(2, 2, 0, 1, 25, 1, 1, 1, 0, 0, 2, 2, 4, 11,
                5, 0, 0, 1, 2, 3, 3, 3, 5, 0, 0, 3, 3, 4, 5, 6,
                NONE, 131, 243, NONE, 131, 243, 1,
                2, -3, -3, 4, -1, 12, 7, 12, 5, 12, 7, 12, 5, 12,
                '1', '2', '3', '3', '3', '/', '3', '3', '4', '5', '6'));
        x.clearText();
        for (int i = 0; i < 5; i++) {
            x.newGame(2);
        }
        for (int i = 0; i < 5; i++) {
            loseOne(x);
        }
        due("digest() of a game that is over", x.digest(), hash(2, 1, NONE, 0, NONE, NONE, NONE, 1, 5, 5, 2, 2, 8, 0,
                0, 5, 0, 5, 0, 0, 2, -3, -3, 4, -1, 12, 7, 12, 5, 12, 7, 12, 5, 12));
    }
}
