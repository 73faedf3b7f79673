/**
 * A table for dice under cups: the game of claims, doubts and exact calls, the chances of claims as
 * exact fractions, advice, and the solutions of small games that are given as matrices.
 */
public final class CupClaims {
    public static final int BAD = -1000, STATE = -1001, FULL = -1002;
    public static final int NONE = -1003;

    private static final int LEAST_PLAYERS = 2;
    private static final int MOST_PLAYERS = 5;
    private static final int MOST_DICE = 5;
    private static final int MOST_OTHER_DICE = 20;
    private static final int FACES = 6;
    private static final int MOST_CLAIMED = 25;
    private static final int MOST_SEED = 65535;
    private static final int SIDE = 4;
    private static final int SETS = 16;
    private static final int TEXT_LIMIT = 60;
    private static final int HISTORY_LIMIT = 8;
    private static final int NUMBERS = 14;
    private static final int BLANK = ' ';
    private static final int SLASH = '/';
    private static final int MINUS = '-';

    private final Text text = new Text();
    private final DiceReader diceReader = new DiceReader();
    private final MatrixReader matrixReader = new MatrixReader();
    private final Table table = new Table();
    private final History history = new History();
    private final Chances chances = new Chances();
    private final Solution solution = new Solution();

    public CupClaims() {
    }

    // ---- text

    public int type(int letter) {
        if (letter < 0 || letter > 127) {
            return BAD;
        }
        return text.append(letter) ? text.length : FULL;
    }

    public int clearText() {
        int length = text.length;
        text.length = 0;
        return length;
    }

    public int fault(boolean matrix) {
        return matrix ? matrixReader.faultOf(text) : diceReader.faultOf(text, table);
    }

    // ---- changes

    public int newGame(int players) {
        if (players < LEAST_PLAYERS || players > MOST_PLAYERS) {
            return BAD;
        }
        int before = table.players;
        history.record(table);
        table.begin(players);
        return before;
    }

    public int setWild(boolean wild) {
        if (table.hasClaim()) {
            return STATE;
        }
        int before = table.wild ? 1 : 0;
        history.record(table);
        table.wild = wild;
        return before;
    }

    public int deal() {
        if (!table.canDeal() || diceReader.faultOf(text, table) != NONE) {
            return STATE;
        }
        history.record(table);
        table.dealFaces(diceReader.faces);
        return table.diceInGame();
    }

    public int roll(int seed) {
        if (seed < 0 || seed > MOST_SEED) {
            return BAD;
        }
        if (!table.canDeal()) {
            return STATE;
        }
        history.record(table);
        table.dealRolled(seed);
        return table.diceInGame();
    }

    public int claim(int n, int face) {
        if (!isClaim(n, face)) {
            return BAD;
        }
        int rank = table.rankOf(n, face);
        if (!table.dealt || rank <= table.presentRank()) {
            return STATE;
        }
        history.record(table);
        table.makeClaim(n, face);
        return rank;
    }

    public int doubt() {
        if (!table.hasClaim()) {
            return STATE;
        }
        history.record(table);
        return table.endByDoubt();
    }

    public int callExact() {
        if (!table.hasClaim()) {
            return STATE;
        }
        history.record(table);
        return table.endByExactCall() ? 1 : 0;
    }

    public int setMatrix() {
        if (matrixReader.faultOf(text) != NONE) {
            return STATE;
        }
        history.record(table);
        table.matrix.copyFrom(matrixReader.matrix);
        solution.fit(table.matrix);
        return table.matrix.rows * table.matrix.columns;
    }

    // ---- history

    public int undo() {
        if (history.size == 0) {
            return STATE;
        }
        history.restore(table);
        solution.fit(table.matrix);
        return history.size;
    }

    // ---- the game, told

    public int player(int player, int what) {
        if (!table.hasPlayer(player)) {
            return BAD;
        }
        switch (what) {
            case 0:
                return table.dice[player];
            case 1:
                return table.roundsLost[player];
            case 2:
                return table.exactCalls[player];
            default:
                return BAD;
        }
    }

    public int die(int player, int i) {
        if (!table.hasPlayer(player) || i < 0) {
            return BAD;
        }
        if (!table.dealt || i >= table.diceOf(player)) {
            return NONE;
        }
        return table.faceAt(player, i);
    }

    public int counting(int player, int face) {
        boolean all = player == -1;
        if (!all && !table.hasPlayer(player) || !isFace(face)) {
            return BAD;
        }
        return all ? table.countingInAll(face) : table.countingUnder(player, face);
    }

    public int rank(int n, int face) {
        return isClaim(n, face) ? table.rankOf(n, face) : BAD;
    }

    // ---- chances

    public long chance(int player, int n, int face, int what) {
        if (!table.hasPlayer(player) || !isClaim(n, face) || what < 0 || what > 3) {
            return BAD;
        }
        if (!table.holdsDice(player)) {
            return STATE;
        }
        long ways = what < 2
                ? chances.waysOfLeast(table, player, n, face)
                : chances.waysOfExactly(table, player, n, face);
        return lowestTerm(ways, chances.allWays(table, player), what % 2 == 1);
    }

    public int chanceBits(int player, int n, int face) {
        if (!table.hasPlayer(player) || !isClaim(n, face)) {
            return BAD;
        }
        if (!table.holdsDice(player)) {
            return STATE;
        }
        float numerator = (float) chance(player, n, face, 0);
        float denominator = (float) chance(player, n, face, 1);
        return denominator > 0 ? bitsOfPart(numerator / denominator) : 0;
    }

    public int bestClaim(int player) {
        if (!table.hasPlayer(player)) {
            return BAD;
        }
        return table.holdsDice(player) ? chances.bestClaimOf(table, player) : STATE;
    }

    public int advice() {
        if (!table.dealt) {
            return STATE;
        }
        return table.hasClaim() ? chances.adviceOn(table) : 0;
    }

    // ---- matrices

    public int entry(int row, int column) {
        return table.matrix.has(row, column) ? table.matrix.at(row, column) : BAD;
    }

    public long value(boolean denominator) {
        return lowestTerm(solution.value, solution.whole, denominator);
    }

    public long share(boolean column, int i, boolean denominator) {
        if (column ? !table.matrix.has(0, i) : !table.matrix.has(i, 0)) {
            return BAD;
        }
        return lowestTerm(solution.partOf(column, i), solution.whole, denominator);
    }

    public int saddle(int row, int column) {
        if (!table.matrix.has(row, column)) {
            return BAD;
        }
        return table.matrix.hasSaddleAt(row, column) ? 1 : 0;
    }

    // ---- numbers, digest

    public int count(int what) {
        switch (what) {
            case 0:
                return table.players;
            case 1:
                return table.playersIn();
            case 2:
                return table.isOver() ? NONE : table.turn;
            case 3:
                return table.dealt ? 1 : 0;
            case 4:
                return table.hasClaim() ? table.claimed : NONE;
            case 5:
                return table.hasClaim() ? table.claimedFace : NONE;
            case 6:
                return table.hasClaim() ? table.claimant : NONE;
            case 7:
                return table.wild ? 1 : 0;
            case 8:
                return table.rounds;
            case 9:
                return table.rightDoubts;
            case 10:
                return table.matrix.rows;
            case 11:
                return table.matrix.columns;
            case 12:
                return history.size;
            case 13:
                return text.length;
            default:
                return BAD;
        }
    }

    public long digest() {
        long h = 131;
        for (int what = 0; what < NUMBERS; what++) {
            h = 31 * h + count(what);
        }
        h = withPlayers(h);
        if (table.dealt) {
            h = withChances(h);
        }
        h = withMatrix(h);
        for (int i = 0; i < text.length; i++) {
            h = 31 * h + text.at(i);
        }
        return h;
    }

    private long withPlayers(long start) {
        long h = start;
        for (int p = 0; p < table.players; p++) {
            for (int what = 0; what < 3; what++) {
                h = 31 * h + player(p, what);
            }
            int shown = table.dealt ? table.diceOf(p) : 0;
            for (int i = 0; i < shown; i++) {
                h = 31 * h + table.faceAt(p, i);
            }
        }
        return h;
    }

    private long withChances(long start) {
        long h = start;
        for (int p = 0; p < table.players; p++) {
            if (table.holdsDice(p)) {
                h = 31 * h + bestClaim(p);
                h = 31 * h + chance(p, 3, 4, 0);
                h = 31 * h + chance(p, 3, 4, 1);
            }
        }
        return 31 * h + advice();
    }

    private long withMatrix(long start) {
        int rows = table.matrix.rows;
        int columns = table.matrix.columns;
        long h = start;
        for (int row = 0; row < rows; row++) {
            for (int column = 0; column < columns; column++) {
                h = 31 * h + table.matrix.at(row, column);
            }
        }
        h = 31 * h + value(false);
        h = 31 * h + value(true);
        h = withShares(h, false, rows);
        return withShares(h, true, columns);
    }

    private long withShares(long start, boolean column, int shares) {
        long h = start;
        for (int i = 0; i < shares; i++) {
            h = 31 * h + share(column, i, false);
            h = 31 * h + share(column, i, true);
        }
        return h;
    }

    private static boolean isFace(int face) {
        return face >= 1 && face <= FACES;
    }

    private static boolean isClaim(int n, int face) {
        return n >= 1 && n <= MOST_CLAIMED && isFace(face);
    }

    private static boolean isIn(int set, int i) {
        return (set >> i & 1) == 1;
    }

    /** The numerator or the denominator of a fraction in lowest terms; the denominator is positive. */
    private static long lowestTerm(long numerator, long denominator, boolean wantsDenominator) {
        long factor = commonFactor(Math.abs(numerator), denominator);
        long term = wantsDenominator ? denominator : numerator;
        return factor > 0 ? term / factor : term;
    }

    private static long commonFactor(long a, long b) {
        long large = a;
        long small = b;
        // Euclid needs fewer than 100 steps for any two longs.
        for (int step = 0; step < 1000 && small != 0; step++) {
            long rest = large % small;
            large = small;
            small = rest;
        }
        return large;
    }

    /** The bits of a float from 0 to 1, by arithmetic: the Float class stands outside the language. */
    private static int bitsOfPart(float part) {
        if (part <= 0) {
            return 0;
        }
        int exponent = 127;
        float scaled = part;
        for (int step = 0; step < 126 && scaled < 1; step++) {
            scaled = scaled * 2;
            exponent--;
        }
        return (exponent << 23) + (int) ((scaled - 1) * 8388608);
    }

    /** The text that is typed. */
    private static final class Text {
        private final byte[] letters = new byte[TEXT_LIMIT];
        int length;

        boolean append(int letter) {
            if (length < 0 || length >= TEXT_LIMIT) {
                return false;
            }
            letters[length] = (byte) letter;
            length++;
            return true;
        }

        int at(int i) {
            return i >= 0 && i < TEXT_LIMIT ? letters[i] : 0;
        }
    }

    /** Reads a text as the dice of a table. */
    private static final class DiceReader {
        final int[] faces = new int[MOST_PLAYERS * MOST_DICE];
        private int cup;
        private int inCup;

        int faultOf(Text text, Table table) {
            cup = table.firstInFrom(0);
            inCup = 0;
            for (int i = 0; i < text.length; i++) {
                if (!takes(text.at(i), table)) {
                    return i;
                }
            }
            boolean complete = inCup == table.diceOf(cup) && table.firstInFrom(cup + 1) == NONE;
            return complete ? NONE : text.length;
        }

        private boolean takes(int letter, Table table) {
            if (letter == BLANK) {
                return true;
            }
            return letter == SLASH ? takesSlash(table) : takesFace(letter - '0', table);
        }

        private boolean takesSlash(Table table) {
            int next = table.firstInFrom(cup + 1);
            if (inCup < table.diceOf(cup) || next == NONE) {
                return false;
            }
            cup = next;
            inCup = 0;
            return true;
        }

        private boolean takesFace(int face, Table table) {
            int place = cup * MOST_DICE + inCup;
            if (!isFace(face) || inCup >= table.diceOf(cup) || place < 0 || place >= faces.length) {
                return false;
            }
            faces[place] = face;
            inCup++;
            return true;
        }
    }

    /** Reads a text as a matrix. */
    private static final class MatrixReader {
        final Matrix matrix = new Matrix();
        private int row;
        private int inRow;
        private int mostInRow;
        private int digits;
        private boolean behindMinus;
        private boolean negative;

        int faultOf(Text text) {
            row = 0;
            inRow = 0;
            mostInRow = SIDE;
            digits = 0;
            behindMinus = false;
            for (int i = 0; i < text.length; i++) {
                if (!takes(text.at(i))) {
                    return i;
                }
            }
            if (behindMinus || !rowIsComplete()) {
                return text.length;
            }
            matrix.rows = row + 1;
            matrix.columns = inRow;
            return NONE;
        }

        private boolean takes(int letter) {
            if (letter >= '0' && letter <= '9') {
                return takesDigit(letter - '0');
            }
            if (behindMinus) {
                return false;
            }
            digits = 0;
            switch (letter) {
                case BLANK:
                    return true;
                case MINUS:
                    behindMinus = opensEntry(true);
                    return behindMinus;
                case SLASH:
                    return takesSlash();
                default:
                    return false;
            }
        }

        private boolean takesDigit(int digit) {
            boolean opens = digits == 0 && !behindMinus;
            if (digits == 2 || opens && !opensEntry(false)) {
                return false;
            }
            int magnitude = 10 * matrix.at(row, inRow - 1);
            matrix.put(row, inRow - 1, negative ? magnitude - digit : magnitude + digit);
            behindMinus = false;
            digits++;
            return true;
        }

        private boolean opensEntry(boolean withMinus) {
            if (inRow >= mostInRow) {
                return false;
            }
            matrix.put(row, inRow, 0);
            inRow++;
            negative = withMinus;
            return true;
        }

        private boolean takesSlash() {
            if (!rowIsComplete() || row + 1 >= SIDE) {
                return false;
            }
            mostInRow = inRow;
            row++;
            inRow = 0;
            return true;
        }

        private boolean rowIsComplete() {
            return row == 0 ? inRow > 0 : inRow == mostInRow;
        }
    }

    /** A matrix of entries. */
    private static final class Matrix {
        int rows = 1;
        int columns = 1;
        private final int[] entries = new int[SIDE * SIDE];

        boolean has(int row, int column) {
            return row >= 0 && row < rows && column >= 0 && column < columns;
        }

        int at(int row, int column) {
            return isPlace(row, column) ? entries[row * SIDE + column] : 0;
        }

        void put(int row, int column, int entry) {
            if (isPlace(row, column)) {
                entries[row * SIDE + column] = entry;
            }
        }

        private boolean isPlace(int row, int column) {
            return row >= 0 && row < SIDE && column >= 0 && column < SIDE;
        }

        void copyFrom(Matrix other) {
            rows = other.rows;
            columns = other.columns;
            System.arraycopy(other.entries, 0, entries, 0, entries.length);
        }

        boolean isSameAs(Matrix other) {
            if (rows != other.rows || columns != other.columns) {
                return false;
            }
            for (int row = 0; row < rows; row++) {
                for (int column = 0; column < columns; column++) {
                    if (at(row, column) != other.at(row, column)) {
                        return false;
                    }
                }
            }
            return true;
        }

        boolean hasSaddleAt(int row, int column) {
            int entry = at(row, column);
            for (int j = 0; j < columns; j++) {
                if (at(row, j) < entry) {
                    return false;
                }
            }
            for (int i = 0; i < rows; i++) {
                if (at(i, column) > entry) {
                    return false;
                }
            }
            return true;
        }
    }

    /** One state: the game and the matrix, all that a change changes and that undo restores. */
    private static final class Table {
        int players;
        boolean wild = true;
        boolean dealt;
        int turn;
        int claimed;
        int claimedFace;
        int claimant;
        int rounds;
        int rightDoubts;
        final int[] dice = new int[MOST_PLAYERS];
        final int[] roundsLost = new int[MOST_PLAYERS];
        final int[] exactCalls = new int[MOST_PLAYERS];
        private final int[] faces = new int[MOST_PLAYERS * MOST_DICE];
        final Matrix matrix = new Matrix();

        Table() {
            begin(LEAST_PLAYERS);
        }

        void begin(int newPlayers) {
            players = newPlayers;
            dealt = false;
            turn = 0;
            claimed = 0;
            rounds = 0;
            rightDoubts = 0;
            for (int p = 0; p < MOST_PLAYERS; p++) {
                dice[p] = p < newPlayers ? MOST_DICE : 0;
                roundsLost[p] = 0;
                exactCalls[p] = 0;
            }
        }

        void copyFrom(Table other) {
            players = other.players;
            wild = other.wild;
            dealt = other.dealt;
            turn = other.turn;
            claimed = other.claimed;
            claimedFace = other.claimedFace;
            claimant = other.claimant;
            rounds = other.rounds;
            rightDoubts = other.rightDoubts;
            System.arraycopy(other.dice, 0, dice, 0, dice.length);
            System.arraycopy(other.roundsLost, 0, roundsLost, 0, roundsLost.length);
            System.arraycopy(other.exactCalls, 0, exactCalls, 0, exactCalls.length);
            System.arraycopy(other.faces, 0, faces, 0, faces.length);
            matrix.copyFrom(other.matrix);
        }

        boolean hasPlayer(int player) {
            return player >= 0 && player < players && player < MOST_PLAYERS;
        }

        int diceOf(int player) {
            return player >= 0 && player < MOST_PLAYERS ? dice[player] : 0;
        }

        boolean holdsDice(int player) {
            return dealt && diceOf(player) > 0;
        }

        int faceAt(int player, int i) {
            boolean isPlace = player >= 0 && player < MOST_PLAYERS && i >= 0 && i < MOST_DICE;
            return isPlace ? faces[player * MOST_DICE + i] : 0;
        }

        int playersIn() {
            int in = 0;
            for (int p = 0; p < MOST_PLAYERS; p++) {
                if (dice[p] > 0) {
                    in++;
                }
            }
            return in;
        }

        boolean isOver() {
            return playersIn() < 2;
        }

        int diceInGame() {
            int all = 0;
            for (int p = 0; p < MOST_PLAYERS; p++) {
                all += dice[p];
            }
            return all;
        }

        /** The first player from the given one on who is not out, without going round; or NONE. */
        int firstInFrom(int player) {
            for (int p = player < 0 ? 0 : player; p < MOST_PLAYERS; p++) {
                if (dice[p] > 0) {
                    return p;
                }
            }
            return NONE;
        }

        private int nextInFrom(int player) {
            int ahead = firstInFrom(player);
            return ahead == NONE ? firstInFrom(0) : ahead;
        }

        boolean canDeal() {
            return !dealt && !isOver();
        }

        void dealFaces(int[] newFaces) {
            for (int i = 0; i < faces.length && i < newFaces.length; i++) {
                faces[i] = newFaces[i];
            }
            dealt = true;
        }

        void dealRolled(int seed) {
            int now = seed;
            for (int p = 0; p < MOST_PLAYERS; p++) {
                for (int i = 0; i < MOST_DICE && i < dice[p]; i++) {
                    now = (now * 1103 + 377) % 65536;
                    faces[p * MOST_DICE + i] = 1 + now / 7 % FACES;
                }
            }
            dealt = true;
        }

        private boolean counts(int shown, int face) {
            return shown == face || wild && shown == 1;
        }

        int countingUnder(int player, int face) {
            int counted = 0;
            int shown = dealt ? diceOf(player) : 0;
            for (int i = 0; i < shown; i++) {
                if (counts(faceAt(player, i), face)) {
                    counted++;
                }
            }
            return counted;
        }

        int countingInAll(int face) {
            int counted = 0;
            for (int p = 0; p < MOST_PLAYERS; p++) {
                counted += countingUnder(p, face);
            }
            return counted;
        }

        int rankOf(int n, int face) {
            if (!wild) {
                return 6 * n + face;
            }
            return face == 1 ? 12 * n : 6 * n + face - 1;
        }

        boolean hasClaim() {
            return claimed > 0;
        }

        int presentRank() {
            return hasClaim() ? rankOf(claimed, claimedFace) : 0;
        }

        void makeClaim(int n, int face) {
            claimed = n;
            claimedFace = face;
            claimant = turn;
            turn = nextInFrom(turn + 1);
        }

        int endByDoubt() {
            boolean wrong = countingInAll(claimedFace) < claimed;
            int loser = wrong ? claimant : turn;
            if (wrong) {
                rightDoubts++;
            }
            loseDie(loser);
            endRound(loser);
            return loser;
        }

        boolean endByExactCall() {
            int caller = turn;
            boolean exact = countingInAll(claimedFace) == claimed;
            if (exact) {
                winDie(caller);
            } else {
                loseDie(caller);
            }
            endRound(caller);
            return exact;
        }

        private void winDie(int player) {
            if (hasPlayer(player)) {
                dice[player] = Math.min(MOST_DICE, dice[player] + 1);
                exactCalls[player]++;
            }
        }

        private void loseDie(int player) {
            if (hasPlayer(player)) {
                dice[player] = Math.max(0, dice[player] - 1);
                roundsLost[player]++;
            }
        }

        private void endRound(int nextToBegin) {
            rounds++;
            dealt = false;
            claimed = 0;
            turn = nextInFrom(nextToBegin);
        }
    }

    /** The states before the latest changes, in a ring of tables that are made once. */
    private static final class History {
        private final Table[] ring = new Table[HISTORY_LIMIT];
        private int oldest;
        int size;

        History() {
            for (int i = 0; i < HISTORY_LIMIT; i++) {
                ring[i] = new Table();
            }
        }

        void record(Table table) {
            Table kept = tableAt(size);
            if (kept == null) {
                return;
            }
            kept.copyFrom(table);
            if (size < HISTORY_LIMIT) {
                size++;
            } else {
                oldest = (oldest + 1) % HISTORY_LIMIT;
            }
        }

        void restore(Table table) {
            Table kept = tableAt(size - 1);
            if (kept != null) {
                table.copyFrom(kept);
                size--;
            }
        }

        /** Behind the latest of a full history stands the oldest, which the next record takes. */
        private Table tableAt(int i) {
            int place = Math.floorMod(oldest + i, HISTORY_LIMIT);
            return place >= 0 && place < ring.length ? ring[place] : null;
        }
    }

    /**
     * In how many of the 6^dice ways that some dice can fall so many of them count, when each counts
     * with a given number of its faces.
     */
    private static final class Spread {
        private final int countingFaces;
        private int dice;
        private final long[] exactly = new long[MOST_OTHER_DICE + 1];
        private final long[] least = new long[MOST_OTHER_DICE + 2];

        Spread(int countingFaces) {
            this.countingFaces = countingFaces;
            exactly[0] = 1;
            least[0] = 1;
        }

        void fit(int newDice) {
            if (newDice == dice || newDice < 0 || newDice > MOST_OTHER_DICE) {
                return;
            }
            dice = newDice;
            exactly[0] = 1;
            for (int thrown = 1; thrown <= newDice; thrown++) {
                exactly[thrown] = 0;
                for (int n = thrown; n >= 1; n--) {
                    exactly[n] = exactly[n] * (FACES - countingFaces) + exactly[n - 1] * countingFaces;
                }
                exactly[0] = exactly[0] * (FACES - countingFaces);
            }
            least[newDice + 1] = 0;
            for (int n = newDice; n >= 0; n--) {
                least[n] = least[n + 1] + exactly[n];
            }
        }

        long waysOfExactly(int n) {
            return n >= 0 && n <= dice ? exactly[n] : 0;
        }

        long waysOfLeast(int n) {
            if (n > dice) {
                return 0;
            }
            return least[n < 0 ? 0 : n];
        }
    }

    /** What players know of claims. Ways stand for chances: all have the same denominator, 6^m. */
    private static final class Chances {
        private final Spread byOneFace = new Spread(1);
        private final Spread byTwoFaces = new Spread(2);

        private Spread spreadFor(Table table, int player, int face) {
            Spread spread = table.wild && face != 1 ? byTwoFaces : byOneFace;
            spread.fit(table.diceInGame() - table.diceOf(player));
            return spread;
        }

        long allWays(Table table, int player) {
            return spreadFor(table, player, 1).waysOfLeast(0);
        }

        long waysOfLeast(Table table, int player, int n, int face) {
            int wanted = n - table.countingUnder(player, face);
            return spreadFor(table, player, face).waysOfLeast(wanted);
        }

        long waysOfExactly(Table table, int player, int n, int face) {
            int wanted = n - table.countingUnder(player, face);
            return spreadFor(table, player, face).waysOfExactly(wanted);
        }

        int bestClaimOf(Table table, int player) {
            int present = table.presentRank();
            int best = NONE;
            int bestRank = 0;
            long bestWays = -1;
            for (int face = 1; face <= FACES; face++) {
                Spread spread = spreadFor(table, player, face);
                int own = table.countingUnder(player, face);
                for (int n = 1; n <= MOST_CLAIMED; n++) {
                    int rank = table.rankOf(n, face);
                    long ways = spread.waysOfLeast(n - own);
                    boolean better = ways > bestWays || ways == bestWays && rank < bestRank;
                    if (rank > present && better) {
                        best = 10 * n + face;
                        bestRank = rank;
                        bestWays = ways;
                    }
                }
            }
            return best;
        }

        /** For a table with a present claim. */
        int adviceOn(Table table) {
            int player = table.turn;
            int n = table.claimed;
            int face = table.claimedFace;
            long wrong = allWays(table, player) - waysOfLeast(table, player, n, face);
            long exact = waysOfExactly(table, player, n, face);
            int best = bestClaimOf(table, player);
            if (best == NONE) {
                return wrong >= exact ? 1 : 2;
            }
            long higher = waysOfLeast(table, player, best / 10, best % 10);
            if (wrong >= exact && wrong >= higher) {
                return 1;
            }
            return exact >= higher ? 2 : 0;
        }
    }

    /**
     * The first solution of a matrix. Its shares are the sums of a part's cofactors by rows and by
     * columns, over the sum of them all; its value is the part's determinant over that sum. The
     * equations have one answer alone just when that sum is not 0.
     */
    private static final class Solution {
        private final long[] minors = new long[SETS * SETS];
        private final long[] rowParts = new long[SIDE];
        private final long[] columnParts = new long[SIDE];
        private final Matrix solved = new Matrix();
        long value;
        long whole = 1;

        Solution() {
            rowParts[0] = 1;
            columnParts[0] = 1;
        }

        long partOf(boolean column, int i) {
            if (i < 0 || i >= SIDE) {
                return 0;
            }
            return column ? columnParts[i] : rowParts[i];
        }

        void fit(Matrix matrix) {
            if (matrix.isSameAs(solved)) {
                return;
            }
            solved.copyFrom(matrix);
            fillMinors(matrix);
            int most = Math.min(matrix.rows, matrix.columns);
            for (int size = 1; size <= most; size++) {
                if (findOfSize(matrix, size)) {
                    return;
                }
            }
        }

        private boolean findOfSize(Matrix matrix, int size) {
            for (int rowSet = 1; rowSet < 1 << matrix.rows; rowSet++) {
                for (int columnSet = 1; columnSet < 1 << matrix.columns; columnSet++) {
                    boolean fits = Integer.bitCount(rowSet) == size && Integer.bitCount(columnSet) == size;
                    if (fits && isSolution(matrix, rowSet, columnSet)) {
                        return true;
                    }
                }
            }
            return false;
        }

        private boolean isSolution(Matrix matrix, int rowSet, int columnSet) {
            sumCofactors(rowSet, columnSet);
            if (whole == 0) {
                return false;
            }
            value = minorOf(rowSet, columnSet);
            if (whole < 0) {
                negateAll();
            }
            return sharesStand() && rowsHold(matrix) && columnsHold(matrix);
        }

        private void sumCofactors(int rowSet, int columnSet) {
            whole = 0;
            for (int i = 0; i < SIDE; i++) {
                rowParts[i] = 0;
                columnParts[i] = 0;
            }
            for (int row = 0; row < SIDE; row++) {
                for (int column = 0; column < SIDE; column++) {
                    if (isIn(rowSet, row) && isIn(columnSet, column)) {
                        long cofactor = cofactorOf(rowSet, columnSet, row, column);
                        rowParts[row] += cofactor;
                        columnParts[column] += cofactor;
                        whole += cofactor;
                    }
                }
            }
        }

        private long cofactorOf(int rowSet, int columnSet, int row, int column) {
            int rowsAhead = Integer.bitCount(rowSet & (1 << row) - 1);
            int columnsAhead = Integer.bitCount(columnSet & (1 << column) - 1);
            long minor = minorOf(rowSet ^ 1 << row, columnSet ^ 1 << column);
            return (rowsAhead + columnsAhead) % 2 == 0 ? minor : -minor;
        }

        private void negateAll() {
            whole = -whole;
            value = -value;
            for (int i = 0; i < SIDE; i++) {
                rowParts[i] = -rowParts[i];
                columnParts[i] = -columnParts[i];
            }
        }

        private boolean sharesStand() {
            for (int i = 0; i < SIDE; i++) {
                if (rowParts[i] < 0 || columnParts[i] < 0) {
                    return false;
                }
            }
            return true;
        }

        /** In the part's own columns both sides are equal, so these need no look of their own. */
        private boolean rowsHold(Matrix matrix) {
            for (int column = 0; column < matrix.columns; column++) {
                long sum = 0;
                for (int row = 0; row < SIDE; row++) {
                    sum += matrix.at(row, column) * rowParts[row];
                }
                if (sum < value) {
                    return false;
                }
            }
            return true;
        }

        private boolean columnsHold(Matrix matrix) {
            for (int row = 0; row < matrix.rows; row++) {
                long sum = 0;
                for (int column = 0; column < SIDE; column++) {
                    sum += matrix.at(row, column) * columnParts[column];
                }
                if (sum > value) {
                    return false;
                }
            }
            return true;
        }

        private long minorOf(int rowSet, int columnSet) {
            int place = rowSet * SETS + columnSet;
            return place >= 0 && place < minors.length ? minors[place] : 0;
        }

        /** Ascending sets: the smaller minors that each one rests on stand ahead of it. */
        private void fillMinors(Matrix matrix) {
            minors[0] = 1;
            for (int rowSet = 1; rowSet < 1 << matrix.rows && rowSet < SETS; rowSet++) {
                for (int columnSet = 1; columnSet < 1 << matrix.columns && columnSet < SETS; columnSet++) {
                    if (Integer.bitCount(rowSet) == Integer.bitCount(columnSet)) {
                        minors[rowSet * SETS + columnSet] = alongFirstRow(matrix, rowSet, columnSet);
                    }
                }
            }
        }

        private long alongFirstRow(Matrix matrix, int rowSet, int columnSet) {
            int row = 0;
            while (row < SIDE - 1 && !isIn(rowSet, row)) {
                row++;
            }
            long sum = 0;
            int sign = 1;
            for (int column = 0; column < SIDE; column++) {
                if (isIn(columnSet, column)) {
                    long minor = minorOf(rowSet ^ 1 << row, columnSet ^ 1 << column);
                    sum += sign * matrix.at(row, column) * minor;
                    sign = -sign;
                }
            }
            return sum;
        }
    }
}
