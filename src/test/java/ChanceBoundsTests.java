/** The boundary cases of chances and of advice: promises 18 to 21, and "Chances" that they rest on. */
public final class ChanceBoundsTests extends Bounds {
    /** 6 to the power of 20, of the dice under four other cups. */
    private static final long MOST_WAYS = 3656158440062976L;

    public static void main(String[] args) {
        ownDiceAreKnown();
        oneOtherDie();
        twentyOtherDice();
        twentyOtherDiceAndWildOnes();
        otherCupsOfThoseWhoAreIn();
        zeroAndOne();
        arguments();
        notPossibleNow();
        floats();
        floatsOfRoundedNumbers();
        floatsNotPossible();
        bestOfAny();
        bestAboveThePresentClaim();
        leastRankOfSeveral();
        bestClaimNotPossible();
        doubtsAdvised();
        exactCallsAdvised();
        claimsAdvised();
        adviceWithoutClaims();
        adviceNotPossible();
        end();
    }

    // ---- promise 18

    private static void ownDiceAreKnown() {
        sentence(0, "the dice under the own cup are known");
        Play x = Play.dealt(true, "16661/33456");
        x.dueChance("0, 5, 6", 1, 1, 32, 243);
        x.dueChance("0, 6, 6", 211, 243, 80, 243);
        x.dueChance("0, 4, 6", 1, 1, 0, 1);
        x.dueChance("0, 2, 1", 1, 1, 3125, 7776);
        x.dueChance("0, 3, 1", 4651, 7776, 3125, 7776);
        x.dueChance("0, 1, 1", 1, 1, 0, 1);
        x.dueChance("0, 7, 1", 1, 7776, 1, 7776);
        x.dueChance("0, 8, 1", 0, 1, 0, 1);
        x.dueChance("1, 1, 1", 4651, 7776, 3125, 7776);
        x.dueChance("1, 2, 3", 1, 1, 32, 243);
        x.dueChance("1, 7, 3", 1, 243, 1, 243);
        x.dueChance("1, 8, 3", 0, 1, 0, 1);
        x.ask("setWild(false)");
        x.dueChance("0, 3, 6", 1, 1, 3125, 7776);
        x.dueChance("0, 4, 6", 4651, 7776, 3125, 7776);
        x.dueChance("0, 2, 1", 1, 1, 3125, 7776);
    }

    private static void oneOtherDie() {
        sentence(0, "each of the m dice under other cups shows each face with the same chance");
        Play x = Play.dealt(true, "1/6");
        x.dueChance("0, 1, 1", 1, 1, 5, 6);
        x.dueChance("0, 2, 1", 1, 6, 1, 6);
        x.dueChance("0, 3, 1", 0, 1, 0, 1);
        x.dueChance("0, 1, 2", 1, 1, 2, 3);
        x.dueChance("0, 2, 2", 1, 3, 1, 3);
        x.dueChance("0, 3, 2", 0, 1, 0, 1);
        x.dueChance("1, 1, 1", 1, 6, 1, 6);
        x.dueChance("1, 1, 5", 1, 3, 1, 3);
        x.dueChance("1, 2, 5", 0, 1, 0, 1);
        x.ask("setWild(false)");
        x.dueChance("0, 1, 2", 1, 6, 1, 6);
        x.dueChance("1, 1, 6", 1, 1, 5, 6);
        x.dueChance("1, 2, 6", 1, 6, 1, 6);
    }

    private static void twentyOtherDice() {
        sentence(0, "The chance of a claim is that at least n dice count for f, the exact chance that exactly n do.");
        Play x = Play.dealt(false, "66666/11111/22222/33333/44444");
        x.dueChance("0, 4, 6", 1, 1, 0, 1);
        x.dueChance("0, 5, 6", 1, 1, 95367431640625L, MOST_WAYS);
        x.dueChance("0, 6, 6", 3560791008422351L, MOST_WAYS, 95367431640625L, 914039610015744L);
        x.dueChance("0, 7, 6", 3179321281859851L, MOST_WAYS, 362396240234375L, 1828079220031488L);
        x.dueChance("0, 9, 6", 528259274942867L, 1218719480020992L, 246429443359375L, 1218719480020992L);
        x.dueChance("0, 15, 6", 1094112609613L, 1828079220031488L, 451064453125L, 914039610015744L);
        x.dueChance("0, 24, 6", 101, MOST_WAYS, 25, 914039610015744L);
        x.dueChance("0, 25, 6", 1, MOST_WAYS, 1, MOST_WAYS);
        x.dueChance("0, 1, 1", 3560791008422351L, MOST_WAYS, 95367431640625L, 914039610015744L);
        x.dueChance("0, 20, 1", 1, MOST_WAYS, 1, MOST_WAYS);
        x.dueChance("0, 21, 1", 0, 1, 0, 1);
        x.dueChance("0, 25, 1", 0, 1, 0, 1);
        x.dueChance("4, 25, 4", 1, MOST_WAYS, 1, MOST_WAYS);
        x.dueChance("4, 25, 5", 0, 1, 0, 1);
    }

    private static void twentyOtherDiceAndWildOnes() {
        sentence(0, "if ones are wild, ones count for each face");
        Play x = Play.dealt(true, "16161/11111/22222/33333/44444");
        x.dueChance("0, 5, 6", 1, 1, 1048576, 3486784401L);
        x.dueChance("0, 6, 6", 3485735825L, 3486784401L, 10485760, 3486784401L);
        x.dueChance("0, 10, 6", 986166235, 1162261467, 169345024, 1162261467);
        x.dueChance("0, 24, 6", 41, 3486784401L, 40, 3486784401L);
        x.dueChance("0, 25, 6", 1, 3486784401L, 1, 3486784401L);
        x.dueChance("0, 23, 1", 1, MOST_WAYS, 1, MOST_WAYS);
        x.dueChance("0, 24, 1", 0, 1, 0, 1);
        x.dueChance("1, 25, 1", 1, MOST_WAYS, 1, MOST_WAYS);
        x.dueChance("2, 25, 1", 0, 1, 0, 1);
    }

    private static void otherCupsOfThoseWhoAreIn() {
        sentence(0, "A player with 0 dice is out.");
        Play x = Play.dealt(true, "66//6/");
        x.dueChance("0, 3, 6", 1, 3, 1, 3);
        x.dueChance("0, 4, 6", 0, 1, 0, 1);
        x.dueChance("2, 3, 6", 1, 9, 1, 9);
        x.dueChance("2, 2, 6", 5, 9, 4, 9);
        x.dueChance("2, 1, 6", 1, 1, 4, 9);
        x.dueForAll(STATE, "chance(1, 1, 6, 0)", "chance(3, 1, 6, 1)");
        x.due("chance(4, 1, 6, 0)", BAD);
    }

    private static void zeroAndOne() {
        sentence(0, "Chances are fractions in lowest terms: 0 is 0/1, and 1 is 1/1.");
        Play x = Play.dealt(true, "22222/33333/44444");
        x.dueChance("0, 25, 2", 0, 1, 0, 1);
        x.dueChance("0, 25, 1", 0, 1, 0, 1);
        x.dueChance("0, 16, 2", 0, 1, 0, 1);
        x.dueChance("0, 15, 2", 1, 59049, 1, 59049);
        x.dueChance("0, 1, 2", 1, 1, 0, 1);
        x.dueChance("0, 4, 2", 1, 1, 0, 1);
        x.dueChance("0, 5, 2", 1, 1, 1024, 59049);
        x.dueChance("0, 1, 1", 50700551, 60466176, 9765625, 30233088);
        x.dueChance("0, 11, 1", 0, 1, 0, 1);
    }

    private static void arguments() {
        sentence(18, "0 for the numerator, 1 for the denominator of the chance, 2 and 3 for those of the exact chance");
        Play x = Play.dealt(true, "22222/33333/44444");
        x.due("chance(0, 6, 2, 0)", 58025);
        x.due("chance(0, 6, 2, 1)", 59049);
        x.due("chance(0, 6, 2, 2)", 5120);
        x.due("chance(0, 6, 2, 3)", 59049);
        x.dueForAll(BAD, "chance(0, 6, 2, -1)", "chance(0, 6, 2, 4)", "chance(0, 6, 2, LEAST)", "chance(0, 6, 2, MOST)");
        sentence(18, "1 to 25");
        x.dueForAll(BAD, "chance(0, 0, 2, 0)", "chance(0, 26, 2, 0)", "chance(0, -1, 2, 0)");
        x.dueForAll(BAD, "chance(0, LEAST, 2, 3)", "chance(0, MOST, 2, 3)");
        x.dueForAll(1, "chance(0, 1, 2, 0)", "chance(0, 25, 2, 1)");
        sentence(18, "1 to 6");
        x.dueForAll(BAD, "chance(0, 1, 0, 0)", "chance(0, 1, 7, 0)", "chance(0, 1, -1, 0)");
        x.dueForAll(BAD, "chance(0, 1, LEAST, 1)", "chance(0, 1, MOST, 1)");
        x.due("chance(0, 10, 1, 0)", 1);
        x.due("chance(0, 10, 6, 0)", 1);
        sentence(18, "the player");
        x.dueForAll(BAD, "chance(-1, 1, 2, 0)", "chance(3, 1, 2, 0)", "chance(LEAST, 1, 2, 0)", "chance(MOST, 1, 2, 0)");
        x.due("chance(2, 5, 4, 1)", 1);
        x.due("chance(2, 15, 4, 1)", 59049);
    }

    private static void notPossibleNow() {
        sentence(18, "BAD; STATE if no dice are dealt, or the player is out");
        Play x = Play.withDice(true, 0, 2, 2);
        x.dueForAll(STATE, "chance(0, 1, 2, 0)", "chance(1, 1, 2, 3)", "chance(2, 25, 6, 1)");
        dueBadChances(x);
        x.ask("roll(8)");
        x.due("chance(0, 1, 2, 0)", STATE);
        x.due("chance(1, 25, 2, 3)", 1);
        dueBadChances(x);
        x.ask("claim(1, 2)");
        x.due("chance(2, 25, 2, 3)", 1);
        x.ask("doubt()");
        x.dueForAll(STATE, "chance(1, 1, 2, 0)", "chance(2, 1, 2, 0)");
    }

    private static void dueBadChances(Play x) {
        x.dueForAll(BAD, "chance(3, 1, 2, 0)", "chance(-1, 1, 2, 0)", "chance(0, 0, 2, 0)", "chance(0, 26, 2, 0)");
        x.dueForAll(BAD, "chance(0, 1, 0, 0)", "chance(0, 1, 7, 0)", "chance(0, 1, 2, -1)", "chance(0, 1, 2, 4)");
    }

    // ---- promise 19

    private static void floats() {
        sentence(19, "Returns its bits, as Float.floatToIntBits returns them");
        Play x = Play.dealt(true, "16661/33456");
        x.dueForAll(0x3f800000, "chanceBits(0, 1, 2)", "chanceBits(0, 5, 6)", "chanceBits(0, 2, 1)");
        x.dueForAll(0, "chanceBits(0, 25, 6)", "chanceBits(0, 11, 6)", "chanceBits(0, 8, 1)");
        x.due("chanceBits(0, 6, 6)", 0x3f5e49bf);
        x.due("chanceBits(0, 10, 6)", 0x3b86d905);
        x.due("chanceBits(0, 3, 1)", 0x3f191e8d);
        x.due("chanceBits(0, 7, 1)", 0x3906d905);
        Play y = Play.dealt(true, "1/6");
        y.due("chanceBits(0, 2, 2)", 0x3eaaaaab);
        y.due("chanceBits(0, 2, 1)", 0x3e2aaaab);
        y.due("chanceBits(0, 2, 2)", Float.floatToIntBits(1f / 3f));
    }

    /** Each of these differs by one bit from the float that is nearest to the chance itself. */
    private static void floatsOfRoundedNumbers() {
        sentence(19, "the float of the numerator divided by the float of the denominator");
        Play x = Play.dealt(false, "66666/11111/22222/33333/44444");
        x.due("chanceBits(0, 6, 6)", 0x3f79528d);
        x.due("chanceBits(0, 9, 6)", 0x3eddedba);
        x.due("chanceBits(0, 10, 6)", 0x3e6ccd00);
        x.due("chanceBits(0, 14, 6)", 0x3b3a3a67);
        x.due("chanceBits(0, 18, 6)", 0x35f673ef);
        x.due("chanceBits(0, 24, 6)", 0x28f8d20b);
        x.due("chanceBits(0, 25, 6)", 0x259dab1e);
        Play y = Play.dealt(true, "16161/11111/22222/33333/44444");
        y.due("chanceBits(0, 6, 6)", 0x3f7fec4b);
        y.due("chanceBits(0, 10, 6)", 0x3f593695);
        y.due("chanceBits(0, 17, 6)", 0x3c548df4);
        y.due("chanceBits(0, 24, 6)", 0x324a033e);
        y.due("chanceBits(0, 25, 6)", 0x2f9dab1e);
        for (int n = 1; n <= 25; n++) {
            float numerator = y.ask("chance(0, " + n + ", 6, 0)");
            float denominator = y.ask("chance(0, " + n + ", 6, 1)");
            y.due("chanceBits(0, " + n + ", 6)", Float.floatToIntBits(numerator / denominator));
        }
    }

    private static void floatsNotPossible() {
        sentence(19, "BAD; STATE if no dice are dealt, or the player is out");
        Play x = Play.withDice(true, 0, 2, 2);
        x.dueForAll(STATE, "chanceBits(0, 1, 2)", "chanceBits(1, 1, 2)", "chanceBits(2, 25, 6)");
        dueBadBits(x);
        x.ask("roll(8)");
        x.due("chanceBits(0, 1, 2)", STATE);
        x.due("chanceBits(1, 25, 2)", 0);
        dueBadBits(x);
    }

    private static void dueBadBits(Play x) {
        x.dueForAll(BAD, "chanceBits(3, 1, 2)", "chanceBits(-1, 1, 2)", "chanceBits(LEAST, 1, 2)", "chanceBits(MOST, 1, 2)");
        x.dueForAll(BAD, "chanceBits(0, 0, 2)", "chanceBits(0, 26, 2)", "chanceBits(1, LEAST, 2)", "chanceBits(1, MOST, 2)");
        x.dueForAll(BAD, "chanceBits(0, 1, 0)", "chanceBits(0, 1, 7)", "chanceBits(1, 1, LEAST)", "chanceBits(1, 1, MOST)");
    }

    // ---- promise 20

    private static void bestOfAny() {
        sentence(0, "(any, if there is none)");
        dueBestClaim(true, "22222/33333", 12);
        dueBestClaim(true, "66666/33333", 16);
        dueBestClaim(true, "11111/33333", 12);
        dueBestClaim(false, "11111/33333", 11);
        dueBestClaim(false, "66666/33333", 16);
        dueBestClaim(false, "6/3", 16);
        dueBestClaim(true, "3/6", 13);
        dueBestClaim(true, "1/6", 12);
    }

    private static void dueBestClaim(boolean wild, String cups, int want) {
        Play.dealt(wild, cups).due("bestClaim(0)", want);
    }

    private static void bestAboveThePresentClaim() {
        sentence(0, "the claim with a rank greater than that of the present claim");
        Play x = Play.dealt(true, "22222/33333");
        x.ask("claim(5, 2)");
        x.due("bestClaim(0)", 62);
        x.due("bestClaim(1)", 53);
        x.ask("undo()");
        x.ask("claim(4, 6)");
        x.due("bestClaim(0)", 52);
        x.due("bestClaim(1)", 53);
        x.ask("undo()");
        x.ask("claim(25, 5)");
        x.dueForAll(256, "bestClaim(0)", "bestClaim(1)");
        x.ask("claim(25, 6)");
        x.due("bestClaim(0)", 131);
        x.ask("claim(24, 1)");
        x.dueForAll(251, "bestClaim(0)", "bestClaim(1)");
        x.ask("claim(25, 1)");
        x.dueForAll(NONE, "bestClaim(0)", "bestClaim(1)");
        Play y = Play.dealt(false, "22222/33333");
        y.ask("claim(25, 5)");
        y.dueForAll(256, "bestClaim(0)", "bestClaim(1)");
        y.ask("claim(25, 6)");
        y.dueForAll(NONE, "bestClaim(0)", "bestClaim(1)");
    }

    private static void leastRankOfSeveral() {
        sentence(0, "that has the greatest chance; of several the one with the least rank");
        Play x = Play.dealt(true, "16/5");
        x.due("bestClaim(0)", 12);
        x.ask("claim(1, 2)");
        x.due("bestClaim(0)", 13);
        x.ask("claim(1, 6)");
        x.due("bestClaim(0)", 11);
        x.ask("claim(1, 1)");
        x.due("bestClaim(0)", 26);
        x.ask("claim(2, 6)");
        // three of five faces have a chance of 0, three sixes have 1/3, two ones 1/6
        x.due("bestClaim(0)", 36);
        x.due("bestClaim(1)", 35);
        x.ask("claim(3, 1)");
        // nothing above has a chance, so it is the least rank: six twos
        x.dueForAll(62, "bestClaim(0)", "bestClaim(1)");
        Play y = Play.dealt(false, "45/6");
        y.due("bestClaim(0)", 14);
        y.ask("claim(1, 5)");
        // one six has 1/6, as two fours and two fives have
        y.due("bestClaim(0)", 16);
        y.ask("claim(2, 3)");
        y.due("bestClaim(0)", 24);
        y.due("bestClaim(1)", 26);
        y.ask("claim(2, 6)");
        y.due("bestClaim(0)", 31);
    }

    private static void bestClaimNotPossible() {
        sentence(20, "BAD; STATE if no dice are dealt, or the player is out; NONE if no claim has a greater rank");
        Play x = Play.withDice(true, 0, 2, 2);
        x.dueForAll(STATE, "bestClaim(0)", "bestClaim(1)", "bestClaim(2)");
        x.dueForAll(BAD, "bestClaim(-1)", "bestClaim(3)", "bestClaim(LEAST)", "bestClaim(MOST)");
        x.ask("roll(8)");
        x.due("bestClaim(0)", STATE);
        x.dueForAll(BAD, "bestClaim(-1)", "bestClaim(3)");
        x.ask("claim(25, 1)");
        x.due("bestClaim(0)", STATE);
        x.dueForAll(NONE, "bestClaim(1)", "bestClaim(2)");
        x.dueForAll(BAD, "bestClaim(-1)", "bestClaim(3)", "bestClaim(LEAST)", "bestClaim(MOST)");
        x.ask("callExact()");
        x.due("bestClaim(1)", STATE);
    }

    // ---- promise 21

    /** Player 0 makes the claim, player 1 is advised. */
    private static void dueAdvice(boolean wild, String cups, String claim, int want) {
        Play x = Play.dealt(wild, cups);
        x.due("count(2)", 0);
        x.ask(claim);
        x.due("advice()", want);
    }

    private static void doubtsAdvised() {
        sentence(21, "Returns 1 (doubt) if the first is not less than both others");
        // the first and the second are 3125/7776 both, the third is 763/3888
        dueAdvice(false, "333/1/33", "claim(2, 1)", 1);
        dueAdvice(false, "333/6/33", "claim(2, 6)", 1);
        // 625/1296, 500/1296, 171/1296
        dueAdvice(false, "33/6/33", "claim(2, 6)", 1);
        // the first and the second are 4/9 both, the third is 11/36
        dueAdvice(true, "33/1", "claim(2, 6)", 1);
        // the first and the third are 1 both: no three ones, but three twos
        dueAdvice(false, "3/222", "claim(3, 1)", 1);
        // the first is 5/6, both others are 1/6
        dueAdvice(false, "3/1", "claim(1, 6)", 1);
        // the first is 1, both others are 0
        dueAdvice(true, "3/1", "claim(3, 1)", 1);
        dueAdvice(true, "3/1", "claim(24, 1)", 1);
    }

    private static void exactCallsAdvised() {
        sentence(21, "otherwise 2 (call exact) if the second is not less than the third");
        // 0, 5/6, 1/6
        dueAdvice(false, "3/66", "claim(2, 6)", 2);
        // 0, 2/3, 1/3
        dueAdvice(true, "3/66", "claim(2, 6)", 2);
        // 0, 25/36, 11/36
        dueAdvice(false, "33/1", "claim(1, 1)", 2);
        dueAdvice(false, "33/6", "claim(1, 6)", 2);
        // 15625/46656, 18750/46656, 12281/46656
        dueAdvice(false, "333/6/333", "claim(2, 6)", 2);
    }

    private static void claimsAdvised() {
        sentence(21, "otherwise 0 (claim)");
        // the first and the second are 3125/7776 both, the third is 4651/7776
        dueAdvice(false, "333/1/33", "claim(1, 2)", 0);
        // 0, 5/6, 1
        dueAdvice(false, "3/56", "claim(1, 5)", 0);
        // 5/6, 1/6, 1
        dueAdvice(false, "3/66", "claim(1, 5)", 0);
        // 0, 0, 1
        dueAdvice(false, "3/666", "claim(1, 6)", 0);
        // of nine fives 0.8095 and 0.0987, of nine sixes, of which four are known, 0.8485
        dueAdvice(true, "22222/66663/22222/33333/44444", "claim(9, 5)", 0);
        // of ten fives 0.9081 and 0.0543, of ten sixes 0.7028
        dueAdvice(true, "22222/66663/22222/33333/44444", "claim(10, 5)", 1);
    }

    private static void adviceWithoutClaims() {
        sentence(21, "without a present claim 0");
        Play x = Play.dealt(true, "3/1");
        x.due("advice()", 0);
        x.ask("claim(25, 1)");
        x.ask("undo()");
        x.due("advice()", 0);
        sentence(21, "without a best claim 1 if the first is not less than the second, otherwise 2");
        x.ask("claim(25, 1)");
        x.due("advice()", 1);
        dueAdvice(false, "3/1", "claim(25, 6)", 1);
        dueAdvice(true, "11111/11111/11111/11111/11111", "claim(25, 1)", 1);
        dueAdvice(false, "66666/66666/66666/66666/66666", "claim(25, 6)", 1);
    }

    private static void adviceNotPossible() {
        sentence(21, "STATE if no dice are dealt");
        Play x = new Play();
        x.due("advice()", STATE);
        x.ask("roll(1)");
        x.due("advice()", 0);
        x.ask("claim(1, 2)");
        x.ask("doubt()");
        x.due("advice()", STATE);
        Play.withDice(true, 0, 2).due("advice()", STATE);
        sentence(21, "Advises the player whose turn it is");
        // of the claim of one six: sure for player 1, who has it; player 2 has none, nor anything else
        Play y = Play.dealt(false, "2/6/2");
        y.ask("claim(1, 6)");
        y.due("count(2)", 1);
        y.due("advice()", 2);
        Play z = Play.dealt(false, "6/2/2");
        z.ask("claim(1, 6)");
        z.due("advice()", 1);
        z.ask("claim(2, 2)");
        z.due("count(2)", 2);
        z.due("advice()", 1);
    }
}
