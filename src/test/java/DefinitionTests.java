import java.math.BigInteger;
import java.util.ArrayList;
import java.util.HashMap;
import java.util.List;
import java.util.Map;
import java.util.regex.Matcher;
import java.util.regex.Pattern;

/**
 * What the document defines, tried on all cases of a small kind: texts against the grammar, chances against
 * all falls of the dice, best claims and advice against the chances, solutions against what they must be.
 */
public final class DefinitionTests extends Bounds {
    private static final Pattern ENTRY = Pattern.compile("-?[0-9]{1,2}");
    private static final String ROW = " *-?[0-9]{1,2}( +[0-9]{1,2}| *-[0-9]{1,2})* *";
    private static final Pattern MATRIX = Pattern.compile(ROW + "(/" + ROW + ")*");
    /** What any text that has only stood so far can go on with, to be a whole matrix. */
    private static final String[] GOING_ON = {"", "1", " 1", "1 1", " 1 1", "1 1 1", " 1 1 1", "1 1 1 1"};

    private static final Map<String, Boolean> standing = new HashMap<>();

    public static void main(String[] args) {
        allShortMatrixTexts();
        allShortDiceTexts();
        allFallsOfOtherDice();
        bestOfAllClaims();
        advicesCompared();
        solutionsAreSolutions();
        end();
    }

    // ---- texts

    private static void allShortMatrixTexts() {
        sentence(0, "matrix = row { \"/\" row } row = entry { entry } entry = [ \"-\" ] digits");
        dueMatrixFaults("1-/ ", 8);
        dueMatrixFaults("09-/ x", 5);
        dueMatrixFaults("1/", 10);
        dueMatrixFaults("5 ", 11);
    }

    private static void dueMatrixFaults(String letters, int longest) {
        standing.clear();
        for (String text : allTexts(letters, longest)) {
            CupClaims x = new CupClaims();
            for (int i = 0; i < text.length(); i++) {
                x.type(text.charAt(i));
            }
            due("fault(true) of '" + text + "'", x.fault(true), faultOfMatrix(text));
        }
    }

    private static List<String> allTexts(String letters, int longest) {
        List<String> texts = new ArrayList<>(List.of(""));
        int ahead = 0;
        for (int length = 1; length <= longest; length++) {
            int before = texts.size();
            for (; ahead < before; ahead++) {
                for (char letter : letters.toCharArray()) {
                    texts.add(texts.get(ahead) + letter);
                }
            }
        }
        return texts;
    }

    /** A byte can stand at its place if some matrix begins with the text as far as it. */
    private static int faultOfMatrix(String text) {
        for (int i = 0; i < text.length(); i++) {
            if (!standing.computeIfAbsent(text.substring(0, i + 1), DefinitionTests::beginsAMatrix)) {
                return i;
            }
        }
        return isMatrix(text) ? NONE : text.length();
    }

    private static boolean beginsAMatrix(String text) {
        for (String rest : GOING_ON) {
            if (isMatrix(text + rest)) {
                return true;
            }
        }
        return false;
    }

    private static boolean isMatrix(String text) {
        if (!MATRIX.matcher(text).matches()) {
            return false;
        }
        String[] rows = text.split("/");
        long entries = entriesOf(rows[0]);
        boolean alike = entries <= 4 && rows.length <= 4;
        for (String row : rows) {
            alike &= entriesOf(row) == entries;
        }
        return alike;
    }

    private static long entriesOf(String row) {
        Matcher entry = ENTRY.matcher(row);
        return entry.results().count();
    }

    private static void allShortDiceTexts() {
        sentence(0, "It is read as dice, or as a matrix: dice = cup { \"/\" cup } cup = face { face }");
        sentence(0, "The fault of a text is the index, from 0, of the first byte that cannot stand at its place");
        dueDiceFaults(1, 1);
        dueDiceFaults(2, 1);
        dueDiceFaults(1, 0, 2);
        dueDiceFaults(0, 1, 1, 1);
        dueDiceFaults(0, 2, 0, 0, 2);
        dueDiceFaults(0, 3);
    }

    private static void dueDiceFaults(int... dice) {
        StringBuilder whole = new StringBuilder();
        for (int one : dice) {
            whole.append(one == 0 ? "" : "/" + "1".repeat(one));
        }
        whole.deleteCharAt(0);
        Pattern cups = Pattern.compile(" *" + whole.toString().replace("1", "[1-6] *").replace("/", "/ *"));
        Play x = null;
        int texts = 0;
        for (String text : allTexts("16/ 0", 5)) {
            if (texts++ % 40 == 0) {
                x = Play.withDice(true, dice);
            }
            x.write(text);
            due("fault(false) of '" + text + "' for " + whole, x.ask("fault(false)"), faultOfDice(text, cups, whole.toString()));
        }
    }

    private static int faultOfDice(String text, Pattern cups, String whole) {
        for (int i = 0; i < text.length(); i++) {
            boolean stands = false;
            for (int rest = 0; rest <= whole.length(); rest++) {
                stands |= cups.matcher(text.substring(0, i + 1) + whole.substring(rest)).matches();
            }
            if (!stands) {
                return i;
            }
        }
        return cups.matcher(text).matches() ? NONE : text.length();
    }

    // ---- chances

    private static void allFallsOfOtherDice() {
        sentence(0, "For a player, the dice under the own cup are known, and each of the m dice under other cups "
                + "shows each face with the same chance.");
        for (boolean wild : new boolean[] {true, false}) {
            dueChances(wild, "1/6");
            dueChances(wild, "12/34");
            dueChances(wild, "/116/25/");
            dueChances(wild, "3/1/2/6");
            dueChances(wild, "1166/5");
            dueChances(wild, "66/1/2/33");
        }
    }

    private static void dueChances(boolean wild, String cups) {
        String[] each = cups.split("/", -1);
        int dice = cups.replace("/", "").length();
        for (int player = 0; player < each.length; player++) {
            if (each[player].isEmpty()) {
                continue;
            }
            Play x = Play.dealt(wild, cups);
            for (int face = 1; face <= 6; face++) {
                long[] falls = fallsByCount(wild, face, each[player], dice - each[player].length());
                dueChances(x, player, face, falls);
            }
        }
    }

    /** In how many falls of the other dice so many dice count for the face, those under the own cup too. */
    private static long[] fallsByCount(boolean wild, int face, String own, int others) {
        long[] falls = new long[own.length() + others + 1];
        int all = power(6, others);
        for (int fall = 0; fall < all; fall++) {
            int counted = 0;
            for (int i = 0; i < own.length(); i++) {
                counted += counts(own.charAt(i) - '0', face, wild);
            }
            int rest = fall;
            for (int i = 0; i < others; i++) {
                counted += counts(rest % 6 + 1, face, wild);
                rest /= 6;
            }
            falls[counted]++;
        }
        return falls;
    }

    private static int counts(int shown, int face, boolean wild) {
        return shown == face || wild && shown == 1 ? 1 : 0;
    }

    private static int power(int base, int exponent) {
        int power = 1;
        for (int i = 0; i < exponent; i++) {
            power *= base;
        }
        return power;
    }

    private static void dueChances(Play x, int player, int face, long[] falls) {
        long all = 0;
        for (long one : falls) {
            all += one;
        }
        for (int n = 1; n <= falls.length; n++) {
            long least = 0;
            for (int counted = n; counted < falls.length; counted++) {
                least += falls[counted];
            }
            String claim = player + ", " + n + ", " + face;
            dueFraction(x, claim, 0, least, all);
            dueFraction(x, claim, 2, n < falls.length ? falls[n] : 0, all);
        }
    }

    private static void dueFraction(Play x, String claim, int what, long numerator, long denominator) {
        long factor = BigInteger.valueOf(numerator).gcd(BigInteger.valueOf(denominator)).longValue();
        String call = "chance(" + claim + ", ";
        due(call + what + ")", x.ask(call + what + ")"), numerator / factor);
        due(call + (what + 1) + ")", x.ask(call + (what + 1) + ")"), denominator / factor);
    }

    private static void bestOfAllClaims() {
        sentence(0, "The best claim of a player is the claim with a rank greater than that of the present claim "
                + "(any, if there is none) that has the greatest chance; of several the one with the least rank.");
        dueBestClaims("1/6", "claim(1, 2)", "claim(1, 6)", "claim(2, 2)", "claim(24, 6)");
        dueBestClaims("136/25/44", "claim(1, 6)", "claim(2, 4)", "claim(3, 1)", "claim(25, 4)");
        dueBestClaims("11555/26663", "claim(3, 6)", "claim(2, 1)", "claim(5, 5)", "claim(12, 1)");
        dueBestClaims("/31245//66", "claim(1, 1)", "claim(2, 6)", "claim(2, 1)", "claim(4, 2)");
        dueBestClaims("12345/12345/66666/16161/22255", "claim(8, 6)", "claim(5, 1)", "claim(11, 2)");
    }

    private static void dueBestClaims(String cups, String... claims) {
        for (boolean wild : new boolean[] {true, false}) {
            for (String claim : claims) {
                for (int player = 0; player < cups.split("/").length; player++) {
                    dueBestClaim(cups, wild, player, "count(0)");
                    dueBestClaim(cups, wild, player, claim);
                }
            }
        }
    }

    private static void dueBestClaim(String cups, boolean wild, int player, String claim) {
        if (cups.split("/", -1)[player].isEmpty()) {
            return;
        }
        Play x = Play.dealt(wild, cups);
        x.ask(claim);
        String best = bestClaim(x, wild, player);
        due("bestClaim(" + player + ") of " + cups + " behind " + claim, x.ask("bestClaim(" + player + ")"),
                Long.parseLong(best.replace(", ", "")));
    }

    private static String bestClaim(Play x, boolean wild, int player) {
        long present = x.ask("count(4)") == NONE ? 0 : rank(wild, (int) x.ask("count(4)"), (int) x.ask("count(5)"));
        String best = null;
        BigInteger[] bestChance = null;
        for (long rank = present + 1; rank <= 300; rank++) {
            for (int face = 1; face <= 6; face++) {
                int n = (int) (!wild ? rank - face : face == 1 ? rank / 2 : rank - face + 1) / 6;
                if (n >= 1 && n <= 25 && rank(wild, n, face) == rank) {
                    BigInteger[] chance = fraction(x, "chance(" + player + ", " + n + ", " + face + ", ", 0);
                    if (best == null || isLess(bestChance, chance)) {
                        best = n + ", " + face;
                        bestChance = chance;
                    }
                }
            }
        }
        return best;
    }

    private static long rank(boolean wild, int n, int face) {
        return !wild ? 6 * n + face : face == 1 ? 12 * n : 6 * n + face - 1;
    }

    private static BigInteger[] fraction(Play x, String callAhead, int what) {
        return new BigInteger[] {BigInteger.valueOf(x.ask(callAhead + what + ")")),
            BigInteger.valueOf(x.ask(callAhead + (what + 1) + ")"))};
    }

    private static boolean isLess(BigInteger[] one, BigInteger[] other) {
        return one[0].multiply(other[1]).compareTo(other[0].multiply(one[1])) < 0;
    }

    private static void advicesCompared() {
        sentence(21, "compares 1 minus the chance of the present claim, its exact chance, and the chance of the best claim.");
        int[] advices = new int[3];
        for (String cups : new String[] {"1/6", "3/56", "333/6/333", "333/1/33", "3/222", "12/34/56", "/16/5", "136/25/44", "22222/66663/1"}) {
            for (boolean wild : new boolean[] {true, false}) {
                for (int claim = 6; claim < 48; claim++) {
                    advices[dueAdvice(Play.dealt(wild, cups), claim / 6, claim % 6 + 1)]++;
                }
            }
        }
        for (int advice = 0; advice <= 2; advice++) {
            due("whether " + advice + " is advised", advices[advice] > 0 ? 1 : 0, 1);
        }
    }

    private static int dueAdvice(Play x, int n, int face) {
        x.ask("claim(" + n + ", " + face + ")");
        long player = x.ask("count(2)");
        long best = x.ask("bestClaim(" + player + ")");
        String call = "chance(" + player + ", " + n + ", " + face + ", ";
        BigInteger[] chance = fraction(x, call, 0);
        BigInteger[] first = {chance[1].subtract(chance[0]), chance[1]};
        BigInteger[] second = fraction(x, call, 2);
        BigInteger[] third = fraction(x, "chance(" + player + ", " + best / 10 + ", " + best % 10 + ", ", 0);
        boolean doubts = !isLess(first, second) && !isLess(first, third);
        int want = doubts ? 1 : !isLess(second, third) ? 2 : 0;
        due("advice() behind claim(" + n + ", " + face + ")", x.ask("advice()"), want);
        return want;
    }

    // ---- matrices

    /** Shares by which no column pays less than v, and no row more, show that v is the value, whichever the solution. */
    private static void solutionsAreSolutions() {
        sentence(0, "each with the sum 1, and a number v, such that - in each column of the part, the sum of the entries "
                + "times the shares of the rows is v; in each row of the part, the sum of the entries times the shares of "
                + "the columns is v;");
        sentence(0, "There is always a solution, and v is the same in each of them: the value of the matrix.");
        int seed = 1;
        for (int tried = 0; tried < 4000; tried++) {
            int rows = 1 + tried % 4;
            int columns = 1 + tried / 4 % 4;
            int most = new int[] {1, 2, 5, 20, 99}[tried / 16 % 5];
            StringBuilder text = new StringBuilder();
            for (int cell = 0; cell < rows * columns; cell++) {
                seed = (seed * 1103 + 377) % 65536;
                text.append(cell == 0 ? "" : cell % columns == 0 ? "/" : " ").append(seed / 7 % (2 * most + 1) - most);
            }
            // four rows of four entries with two digits each can be too long a text with their blanks
            dueSolution(text.toString().replace(" -", "-"), rows, columns);
        }
    }

    private static void dueSolution(String text, int rows, int columns) {
        Play x = Play.withMatrix(text);
        BigInteger[] value = fractionOf(x, "value(");
        due("the sign of the denominator of '" + text + "'", value[1].signum(), 1);
        dueShares(x, text, value, false, rows, columns);
        dueShares(x, text, value, true, columns, rows);
    }

    private static void dueShares(Play x, String text, BigInteger[] value, boolean ofColumns, int shares, int lines) {
        BigInteger[][] all = new BigInteger[shares][];
        BigInteger[] sum = {BigInteger.ZERO, BigInteger.ONE};
        for (int i = 0; i < shares; i++) {
            all[i] = fractionOf(x, "share(" + ofColumns + ", " + i + ", ");
            sum = plus(sum, all[i], 1);
            due("the sign of a share of '" + text + "'", all[i][0].signum() < 0 ? 1 : 0, 0);
        }
        due("the sum of the shares of '" + text + "'", sum[0].equals(sum[1]) ? 1 : 0, 1);
        for (int line = 0; line < lines; line++) {
            BigInteger[] paid = {BigInteger.ZERO, BigInteger.ONE};
            for (int i = 0; i < shares; i++) {
                String place = ofColumns ? line + ", " + i : i + ", " + line;
                paid = plus(paid, all[i], x.ask("entry(" + place + ")"));
            }
            boolean inOther = fractionOf(x, "share(" + !ofColumns + ", " + line + ", ")[0].signum() > 0;
            boolean holds = ofColumns ? !isLess(value, paid) : !isLess(paid, value);
            boolean isEqual = !isLess(paid, value) && !isLess(value, paid);
            due("whether the sum by the shares of '" + text + "' holds", holds && (isEqual || !inOther) ? 1 : 0, 1);
        }
    }

    private static BigInteger[] fractionOf(Play x, String callAhead) {
        return new BigInteger[] {BigInteger.valueOf(x.ask(callAhead + "false)")), BigInteger.valueOf(x.ask(callAhead + "true)"))};
    }

    private static BigInteger[] plus(BigInteger[] sum, BigInteger[] share, long times) {
        BigInteger numerator = sum[0].multiply(share[1]).add(share[0].multiply(BigInteger.valueOf(times)).multiply(sum[1]));
        return new BigInteger[] {numerator, sum[1].multiply(share[1])};
    }
}
