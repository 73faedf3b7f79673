import java.math.BigInteger;
import java.util.ArrayDeque;
import java.util.ArrayList;
import java.util.Arrays;
import java.util.HashMap;
import java.util.List;
import java.util.Map;
import java.util.Random;
import java.util.regex.Matcher;
import java.util.regex.Pattern;

/**
 * Long runs of calls, each answer compared with that of a slow model, which is written from the
 * document in other ways: texts by regular expressions, chances by binomials over big integers,
 * matrices by elimination over fractions. The runs are the same each time.
 */
public final class ModelTests {
    private static final int BAD = -1000, STATE = -1001, FULL = -1002, NONE = -1003;
    /** So few that the last turn of a run, which makes up to 100 calls, stays within the 512 promised ones. */
    private static final int CALLS = 400;

    private static long checked = 0;
    private static long wrong = 0;

    public static void main(String[] args) {
        for (int run = 0; run < 1000; run++) {
            new Run("game " + run, new Random(run)).playGames();
        }
        for (int run = 0; run < 400; run++) {
            new Run("text " + run, new Random(1000003L * (run + 1))).tryTexts();
        }
        for (int run = 0; run < 600; run++) {
            new Run("matrix " + run, new Random(7919L * (run + 1))).tryMatrices();
        }
        tryAllSmallMatrices();
        Run.tellWhatWasSeen();
        System.out.println(checked + " answers compared, " + wrong + " are not as due");
        if (wrong != 0) {
            System.exit(1);
        }
    }

    /** All matrices of 3 rows and 2 columns, and of 2 and 3, with entries from -1 to 1, and all of 3 and 3 of 0 and 1. */
    private static void tryAllSmallMatrices() {
        tryAll(3, 2, -1, 3);
        tryAll(2, 3, -1, 3);
        tryAll(3, 3, 0, 2);
    }

    private static void tryAll(int rows, int columns, int least, int kinds) {
        int cells = rows * columns;
        long all = Math.round(Math.pow(kinds, cells));
        for (long number = 0; number < all; number++) {
            StringBuilder text = new StringBuilder();
            long rest = number;
            for (int cell = 0; cell < cells; cell++) {
                if (cell > 0) {
                    text.append(cell % columns == 0 ? '/' : ' ');
                }
                text.append(least + rest % kinds);
                rest /= kinds;
            }
            new Run("all " + text, new Random(0)).setAndAsk(text.toString());
        }
    }

    // ------------------------------------------------------------------ the runs

    private static final class Run {
        private static final int[] advices = new int[3];
        private static final int[] solutionSizes = new int[5];
        private static int gamesOver = 0;
        private static int lastClaims = 0;

        private final String name;
        private final Random random;
        private final CupClaims real = new CupClaims();
        private final Model model = new Model();
        private final List<String> calls = new ArrayList<>();
        private boolean told = false;

        Run(String name, Random random) {
            this.name = name;
            this.random = random;
        }

        static void tellWhatWasSeen() {
            System.out.println("advices " + Arrays.toString(advices) + ", sizes of solutions "
                    + Arrays.toString(solutionSizes) + ", ends of games " + gamesOver
                    + ", claims that none can follow " + lastClaims);
            boolean all = gamesOver > 20 && lastClaims > 20;
            for (int advice = 0; advice <= 2; advice++) {
                all &= advices[advice] > 20;
            }
            for (int size = 1; size <= 4; size++) {
                all &= solutionSizes[size] > 20;
            }
            if (!all) {
                wrong++;
                System.out.println("the runs do not reach what they should");
            }
        }

        private boolean isLong() {
            return calls.size() >= CALLS;
        }

        private void due(String call, long got, long want) {
            calls.add(call + "=" + want);
            checked++;
            if (got != want) {
                wrong++;
                if (!told) {
                    told = true;
                    System.out.println(name + ": " + call + " answered " + got + ", due is " + want
                            + "; the calls: " + calls);
                }
            }
        }

        // each call, to both

        private void type(int letter) {
            due("type(" + letter + ")", real.type(letter), model.type(letter));
        }

        private void clearText() {
            due("clearText()", real.clearText(), model.clearText());
        }

        private void write(String text) {
            clearText();
            for (int i = 0; i < text.length(); i++) {
                type(text.charAt(i));
            }
        }

        private void fault(boolean matrix) {
            due("fault(" + matrix + ")", real.fault(matrix), model.fault(matrix));
        }

        private void newGame(int players) {
            due("newGame(" + players + ")", real.newGame(players), model.newGame(players));
        }

        private void setWild(boolean wild) {
            due("setWild(" + wild + ")", real.setWild(wild), model.setWild(wild));
        }

        private void deal() {
            due("deal()", real.deal(), model.deal());
        }

        private void roll(int seed) {
            due("roll(" + seed + ")", real.roll(seed), model.roll(seed));
        }

        private void claim(int n, int face) {
            due("claim(" + n + ", " + face + ")", real.claim(n, face), model.claim(n, face));
        }

        private void doubt() {
            due("doubt()", real.doubt(), model.doubt());
            gamesOver += model.game.playersIn() == 1 ? 1 : 0;
        }

        private void callExact() {
            due("callExact()", real.callExact(), model.callExact());
        }

        private void setMatrix() {
            due("setMatrix()", real.setMatrix(), model.setMatrix());
        }

        private void undo() {
            due("undo()", real.undo(), model.undo());
        }

        private void player(int player, int what) {
            due("player(" + player + ", " + what + ")", real.player(player, what), model.player(player, what));
        }

        private void die(int player, int i) {
            due("die(" + player + ", " + i + ")", real.die(player, i), model.die(player, i));
        }

        private void counting(int player, int face) {
            due("counting(" + player + ", " + face + ")", real.counting(player, face), model.counting(player, face));
        }

        private void rank(int n, int face) {
            due("rank(" + n + ", " + face + ")", real.rank(n, face), model.rank(n, face));
        }

        private void chance(int player, int n, int face, int what) {
            due("chance(" + player + ", " + n + ", " + face + ", " + what + ")",
                    real.chance(player, n, face, what), model.chance(player, n, face, what));
        }

        private void chanceBits(int player, int n, int face) {
            due("chanceBits(" + player + ", " + n + ", " + face + ")",
                    real.chanceBits(player, n, face), model.chanceBits(player, n, face));
        }

        private void bestClaim(int player) {
            int answer = model.bestClaim(player);
            due("bestClaim(" + player + ")", real.bestClaim(player), answer);
            lastClaims += answer == NONE ? 1 : 0;
        }

        private void advice() {
            int answer = model.advice();
            due("advice()", real.advice(), answer);
            if (answer >= 0) {
                advices[answer]++;
            }
        }

        private void entry(int row, int column) {
            due("entry(" + row + ", " + column + ")", real.entry(row, column), model.entry(row, column));
        }

        private void value(boolean denominator) {
            due("value(" + denominator + ")", real.value(denominator), model.value(denominator));
        }

        private void share(boolean column, int i, boolean denominator) {
            due("share(" + column + ", " + i + ", " + denominator + ")",
                    real.share(column, i, denominator), model.share(column, i, denominator));
        }

        private void saddle(int row, int column) {
            due("saddle(" + row + ", " + column + ")", real.saddle(row, column), model.saddle(row, column));
        }

        private void count(int what) {
            due("count(" + what + ")", real.count(what), model.count(what));
        }

        private void digest() {
            due("digest()", real.digest(), model.digest());
        }

        // arguments: mostly good ones, some at the edges, some far out

        private int argument(int least, int most) {
            int kind = random.nextInt(40);
            if (kind == 0) {
                return least - 1;
            }
            if (kind == 1) {
                return most + 1;
            }
            if (kind == 2) {
                int[] far = {Integer.MIN_VALUE, Integer.MAX_VALUE, -1, 0, 1 << 30, -65536, 256};
                return far[random.nextInt(far.length)];
            }
            if (kind == 3) {
                return least;
            }
            if (kind == 4) {
                return most;
            }
            return least + random.nextInt(most - least + 1);
        }

        private int aPlayer() {
            return argument(0, model.game.players - 1);
        }

        // the kinds of runs

        void playGames() {
            newGame(argument(2, 5));
            setWild(random.nextBoolean());
            while (!isLong()) {
                changeSomething();
                askSomething();
                if (random.nextInt(4) == 0) {
                    digest();
                }
            }
            digest();
        }

        private void changeSomething() {
            int kind = random.nextInt(100);
            if (kind < 3) {
                undo();
            } else if (kind < 4) {
                newGame(argument(2, 5));
            } else if (kind < 7) {
                setWild(random.nextBoolean());
            } else if (kind < 9) {
                write(aDiceText());
                fault(false);
                deal();
            } else if (kind < 10) {
                int undos = random.nextInt(12);
                for (int i = 0; i < undos; i++) {
                    undo();
                }
            } else if (kind < 14) {
                anyChange();
            } else if (!model.game.dealt) {
                roll(argument(0, 65535));
            } else if (model.game.n == 0 || kind < 55) {
                claimSomething();
            } else if (kind < 80) {
                doubt();
            } else {
                callExact();
            }
        }

        private void anyChange() {
            switch (random.nextInt(6)) {
                case 0 -> doubt();
                case 1 -> callExact();
                case 2 -> deal();
                case 3 -> roll(argument(0, 65535));
                case 4 -> setMatrix();
                default -> claim(argument(1, 25), argument(1, 6));
            }
        }

        private void claimSomething() {
            int kind = random.nextInt(10);
            int best = model.bestClaim(model.game.turn);
            if (kind < 4 && best > 0) {
                claim(best / 10, best % 10);
            } else if (kind < 8) {
                int all = model.game.diceInGame();
                claim(1 + random.nextInt(Math.max(1, all / 2 + 1)), argument(1, 6));
            } else if (kind < 9 && random.nextInt(4) == 0) {
                claim(25, model.game.wild ? 1 : 6);
                bestClaim(aPlayer());
                advice();
            } else {
                claim(argument(1, 25), argument(1, 6));
            }
        }

        private void askSomething() {
            switch (random.nextInt(12)) {
                case 0 -> player(aPlayer(), argument(0, 2));
                case 1 -> die(aPlayer(), argument(0, 4));
                case 2 -> counting(argument(-1, 4), argument(1, 6));
                case 3 -> rank(argument(1, 25), argument(1, 6));
                case 4 -> chance(aPlayer(), argument(1, 25), argument(1, 6), argument(0, 3));
                case 5 -> chance(aPlayer(), argument(1, 8), argument(1, 6), argument(0, 3));
                case 6 -> chanceBits(aPlayer(), argument(1, 25), argument(1, 6));
                case 7 -> chanceBits(aPlayer(), argument(1, 8), argument(1, 6));
                case 8 -> bestClaim(aPlayer());
                case 9 -> advice();
                case 10 -> advice();
                default -> count(argument(0, 13));
            }
        }

        private String aDiceText() {
            StringBuilder text = new StringBuilder();
            boolean blanks = random.nextInt(3) == 0;
            for (int p = 0; p < model.game.players; p++) {
                int dice = model.game.dice[p];
                if (dice == 0) {
                    continue;
                }
                if (text.length() > 0) {
                    text.append('/');
                }
                for (int i = 0; i < dice; i++) {
                    text.append(1 + random.nextInt(6));
                    if (blanks && random.nextInt(4) == 0) {
                        text.append(' ');
                    }
                }
            }
            return random.nextInt(4) == 0 ? spoiled(text.toString(), "0123456789/ -\n") : text.toString();
        }

        private String spoiled(String text, String letters) {
            StringBuilder spoiled = new StringBuilder(text);
            int times = 1 + random.nextInt(2);
            for (int i = 0; i < times; i++) {
                char letter = letters.charAt(random.nextInt(letters.length()));
                int place = random.nextInt(spoiled.length() + 1);
                int kind = random.nextInt(4);
                if (kind == 0 || place == spoiled.length()) {
                    spoiled.insert(place, letter);
                } else if (kind == 1) {
                    spoiled.setCharAt(place, letter);
                } else if (kind == 2) {
                    spoiled.deleteCharAt(place);
                } else {
                    spoiled.setLength(place);
                }
            }
            return spoiled.toString();
        }

        void tryTexts() {
            newGame(2 + random.nextInt(4));
            while (!isLong()) {
                int kind = random.nextInt(5);
                if (kind == 0) {
                    write(aDiceText());
                } else if (kind == 1) {
                    write(spoiled(aMatrixText(99), "0123456789/ -\t"));
                } else if (kind == 2) {
                    write(anyText("123456/ ", 40));
                } else if (kind == 3) {
                    write(anyText("12- /", 20));
                } else {
                    type(argument(0, 127));
                }
                fault(false);
                fault(true);
                if (random.nextInt(3) == 0) {
                    deal();
                    setMatrix();
                    digest();
                }
                if (random.nextInt(5) == 0) {
                    changeSomething();
                }
            }
        }

        private String anyText(String letters, int most) {
            StringBuilder text = new StringBuilder();
            int length = random.nextInt(most + 1) + (random.nextInt(20) == 0 ? 40 : 0);
            for (int i = 0; i < length; i++) {
                text.append(letters.charAt(random.nextInt(letters.length())));
            }
            return text.toString();
        }

        private String aMatrixText(int most) {
            int rows = Math.min(4, 1 + random.nextInt(6));
            int columns = Math.min(4, 1 + random.nextInt(6));
            StringBuilder text = new StringBuilder();
            for (int row = 0; row < rows; row++) {
                text.append(row == 0 ? "" : random.nextInt(9) == 0 ? " / " : "/");
                for (int column = 0; column < columns; column++) {
                    int entry = random.nextInt(2 * most + 1) - most;
                    boolean needsBlank = column > 0 && (entry >= 0 || random.nextInt(4) == 0);
                    text.append(needsBlank ? " " : "");
                    text.append(random.nextInt(12) == 0 && entry >= 0 && entry < 10 ? "0" : "").append(entry);
                }
            }
            return text.toString();
        }

        void tryMatrices() {
            int[] mosts = {1, 2, 3, 9, 30, 99};
            while (!isLong()) {
                String text = aMatrixText(mosts[random.nextInt(mosts.length)]);
                if (random.nextInt(10) == 0) {
                    undo();
                }
                if (random.nextInt(10) == 0) {
                    newGame(argument(2, 5));
                }
                setAndAsk(text);
            }
        }

        void setAndAsk(String text) {
            write(text);
            setMatrix();
            int rows = model.game.matrix.length;
            int columns = model.game.matrix[0].length;
            solutionSizes[Integer.bitCount(model.solution().rowSet)]++;
            value(false);
            value(true);
            for (int i = 0; i < rows; i++) {
                share(false, i, false);
                share(false, i, true);
            }
            for (int i = 0; i < columns; i++) {
                share(true, i, false);
                share(true, i, true);
            }
            entry(argument(0, rows - 1), argument(0, columns - 1));
            saddle(argument(0, rows - 1), argument(0, columns - 1));
            saddle(argument(0, rows - 1), argument(0, columns - 1));
            share(random.nextBoolean(), argument(0, 3), random.nextBoolean());
            digest();
        }
    }

    // ------------------------------------------------------------------ the model

    private static final class Game {
        int players = 2;
        int[] dice = {5, 5, 0, 0, 0};
        int[] lost = new int[5];
        int[] exact = new int[5];
        int[][] cups = new int[5][0];
        boolean wild = true;
        boolean dealt = false;
        int turn = 0;
        int n = 0;
        int face = 0;
        int claimant = 0;
        int rounds = 0;
        int rightDoubts = 0;
        int[][] matrix = {{0}};

        Game copy() {
            Game other = new Game();
            other.players = players;
            other.dice = dice.clone();
            other.lost = lost.clone();
            other.exact = exact.clone();
            other.cups = cups.clone();
            other.wild = wild;
            other.dealt = dealt;
            other.turn = turn;
            other.n = n;
            other.face = face;
            other.claimant = claimant;
            other.rounds = rounds;
            other.rightDoubts = rightDoubts;
            other.matrix = matrix;
            return other;
        }

        int playersIn() {
            int in = 0;
            for (int d : dice) {
                in += d > 0 ? 1 : 0;
            }
            return in;
        }

        int diceInGame() {
            return dice[0] + dice[1] + dice[2] + dice[3] + dice[4];
        }

        int nextIn(int p) {
            int next = p % players;
            while (dice[next] == 0) {
                next = (next + 1) % players;
            }
            return next;
        }

        int own(int p, int f) {
            int own = 0;
            if (dealt) {
                for (int shown : cups[p]) {
                    own += shown == f || wild && shown == 1 ? 1 : 0;
                }
            }
            return own;
        }

        int allCounting(int f) {
            int all = 0;
            for (int p = 0; p < players; p++) {
                all += own(p, f);
            }
            return all;
        }

        int rank(int claimed, int f) {
            return !wild ? 6 * claimed + f : f == 1 ? 12 * claimed : 6 * claimed + f - 1;
        }

        void end(int starter) {
            rounds++;
            dealt = false;
            n = 0;
            turn = nextIn(starter);
        }
    }

    private static final class Model {
        Game game = new Game();
        private final ArrayDeque<Game> history = new ArrayDeque<>();
        private String text = "";
        private static final Pattern[] MATRICES = matrixPatterns();
        private static final Map<String, Solved> SOLVED = new HashMap<>();
        private static final Map<String, Ratio> CHANCES = new HashMap<>();

        private void record() {
            history.addLast(game);
            game = game.copy();
            if (history.size() > 8) {
                history.removeFirst();
            }
        }

        int type(int letter) {
            if (letter < 0 || letter > 127) {
                return BAD;
            }
            if (text.length() == 60) {
                return FULL;
            }
            text += (char) letter;
            return text.length();
        }

        int clearText() {
            int length = text.length();
            text = "";
            return length;
        }

        // A byte cannot stand at its place if no text that begins so, to and with it, is without a fault.

        int fault(boolean matrix) {
            Pattern[] patterns = matrix ? MATRICES : new Pattern[] {dicePattern()};
            for (int length = 1; length <= text.length(); length++) {
                if (!canBegin(patterns, text.substring(0, length))) {
                    return length - 1;
                }
            }
            for (Pattern pattern : patterns) {
                if (pattern.matcher(text).matches()) {
                    return NONE;
                }
            }
            return text.length();
        }

        private static boolean canBegin(Pattern[] patterns, String part) {
            for (Pattern pattern : patterns) {
                Matcher matcher = pattern.matcher(part);
                if (matcher.matches() || matcher.hitEnd()) {
                    return true;
                }
            }
            return false;
        }

        private Pattern dicePattern() {
            StringBuilder pattern = new StringBuilder();
            for (int d : game.dice) {
                if (d > 0) {
                    pattern.append(pattern.length() == 0 ? "" : "/").append(" *([1-6] *){").append(d).append("}");
                }
            }
            return Pattern.compile(pattern.toString());
        }

        private static Pattern[] matrixPatterns() {
            Pattern[] patterns = new Pattern[16];
            for (int rows = 1; rows <= 4; rows++) {
                for (int columns = 1; columns <= 4; columns++) {
                    String row = " *-?[0-9]{1,2}( *-[0-9]{1,2}| +[0-9]{1,2}){" + (columns - 1) + "} *";
                    patterns[4 * (rows - 1) + columns - 1] =
                            Pattern.compile(row + "(/" + row + "){" + (rows - 1) + "}");
                }
            }
            return patterns;
        }

        int newGame(int players) {
            if (players < 2 || players > 5) {
                return BAD;
            }
            record();
            int before = game.players;
            Game next = new Game();
            next.players = players;
            for (int p = 0; p < 5; p++) {
                next.dice[p] = p < players ? 5 : 0;
            }
            next.wild = game.wild;
            next.matrix = game.matrix;
            game = next;
            return before;
        }

        int setWild(boolean wild) {
            if (game.n > 0) {
                return STATE;
            }
            record();
            int before = game.wild ? 1 : 0;
            game.wild = wild;
            return before;
        }

        int deal() {
            if (game.playersIn() == 1 || game.dealt || fault(false) != NONE) {
                return STATE;
            }
            record();
            String[] cups = text.replace(" ", "").split("/");
            int next = 0;
            for (int p = 0; p < 5; p++) {
                game.cups[p] = new int[0];
                if (game.dice[p] > 0) {
                    game.cups[p] = cups[next++].chars().map(letter -> letter - '0').toArray();
                }
            }
            game.dealt = true;
            return game.diceInGame();
        }

        int roll(int seed) {
            if (seed < 0 || seed > 65535) {
                return BAD;
            }
            if (game.playersIn() == 1 || game.dealt) {
                return STATE;
            }
            record();
            long now = seed;
            for (int p = 0; p < 5; p++) {
                game.cups[p] = new int[game.dice[p]];
                for (int i = 0; i < game.dice[p]; i++) {
                    now = (now * 1103 + 377) & 0xFFFF;
                    game.cups[p][i] = (int) (1 + now / 7 % 6);
                }
            }
            game.dealt = true;
            return game.diceInGame();
        }

        private static boolean isClaim(int n, int face) {
            return n >= 1 && n <= 25 && face >= 1 && face <= 6;
        }

        private int presentRank() {
            return game.n == 0 ? 0 : game.rank(game.n, game.face);
        }

        int claim(int n, int face) {
            if (!isClaim(n, face)) {
                return BAD;
            }
            if (!game.dealt || game.rank(n, face) <= presentRank()) {
                return STATE;
            }
            record();
            game.n = n;
            game.face = face;
            game.claimant = game.turn;
            game.turn = game.nextIn(game.turn + 1);
            return game.rank(n, face);
        }

        int doubt() {
            if (game.n == 0) {
                return STATE;
            }
            record();
            boolean right = game.allCounting(game.face) >= game.n;
            int loser = right ? game.turn : game.claimant;
            game.rightDoubts += right ? 0 : 1;
            game.dice[loser]--;
            game.lost[loser]++;
            game.end(loser);
            return loser;
        }

        int callExact() {
            if (game.n == 0) {
                return STATE;
            }
            record();
            int caller = game.turn;
            boolean exact = game.allCounting(game.face) == game.n;
            if (exact) {
                game.exact[caller]++;
                game.dice[caller] += game.dice[caller] < 5 ? 1 : 0;
            } else {
                game.lost[caller]++;
                game.dice[caller]--;
            }
            game.end(caller);
            return exact ? 1 : 0;
        }

        int setMatrix() {
            if (fault(true) != NONE) {
                return STATE;
            }
            record();
            String[] rows = text.split("/");
            game.matrix = new int[rows.length][];
            for (int row = 0; row < rows.length; row++) {
                String[] entries = rows[row].replace("-", " -").trim().split(" +");
                game.matrix[row] = Arrays.stream(entries).mapToInt(Integer::parseInt).toArray();
            }
            return rows.length * game.matrix[0].length;
        }

        int undo() {
            if (history.isEmpty()) {
                return STATE;
            }
            game = history.removeLast();
            return history.size();
        }

        private boolean isPlayer(int p) {
            return p >= 0 && p < game.players;
        }

        int player(int p, int what) {
            if (!isPlayer(p) || what < 0 || what > 2) {
                return BAD;
            }
            return new int[] {game.dice[p], game.lost[p], game.exact[p]}[what];
        }

        int die(int p, int i) {
            if (!isPlayer(p) || i < 0) {
                return BAD;
            }
            return game.dealt && i < game.dice[p] ? game.cups[p][i] : NONE;
        }

        int counting(int p, int face) {
            if (p != -1 && !isPlayer(p) || face < 1 || face > 6) {
                return BAD;
            }
            return p == -1 ? game.allCounting(face) : game.own(p, face);
        }

        int rank(int n, int face) {
            return isClaim(n, face) ? game.rank(n, face) : BAD;
        }

        // chances

        private Ratio exactChance(int p, int n, int face) {
            int others = game.diceInGame() - game.dice[p];
            int wanted = n - game.own(p, face);
            if (wanted < 0 || wanted > others) {
                return new Ratio(BigInteger.ZERO, BigInteger.ONE);
            }
            int sides = game.wild && face != 1 ? 3 : 6;
            BigInteger ways = binomial(others, wanted).multiply(BigInteger.valueOf(sides - 1).pow(others - wanted));
            return new Ratio(ways, BigInteger.valueOf(sides).pow(others));
        }

        private Ratio leastChance(int p, int n, int face) {
            int others = game.diceInGame() - game.dice[p];
            int sides = game.wild && face != 1 ? 3 : 6;
            String key = others + " " + sides + " " + (n - game.own(p, face));
            return CHANCES.computeIfAbsent(key, k -> sumOfExactChances(p, n, face));
        }

        private Ratio sumOfExactChances(int p, int n, int face) {
            Ratio sum = Ratio.of(0);
            for (int all = n; all <= 25; all++) {
                sum = sum.plus(exactChance(p, all, face));
            }
            return sum;
        }

        private static BigInteger binomial(int n, int k) {
            BigInteger ways = BigInteger.ONE;
            for (int i = 1; i <= k; i++) {
                ways = ways.multiply(BigInteger.valueOf(n - k + i)).divide(BigInteger.valueOf(i));
            }
            return ways;
        }

        private boolean holdsDice(int p) {
            return game.dealt && game.dice[p] > 0;
        }

        long chance(int p, int n, int face, int what) {
            if (!isPlayer(p) || !isClaim(n, face) || what < 0 || what > 3) {
                return BAD;
            }
            if (!holdsDice(p)) {
                return STATE;
            }
            Ratio chance = what < 2 ? leastChance(p, n, face) : exactChance(p, n, face);
            return (what % 2 == 0 ? chance.over : chance.under).longValueExact();
        }

        int chanceBits(int p, int n, int face) {
            long over = chance(p, n, face, 0);
            if (over < 0) {
                return (int) over;
            }
            return Float.floatToIntBits((float) over / (float) chance(p, n, face, 1));
        }

        int bestClaim(int p) {
            if (!isPlayer(p)) {
                return BAD;
            }
            if (!holdsDice(p)) {
                return STATE;
            }
            int[] byRank = new int[400];
            for (int n = 1; n <= 25; n++) {
                for (int face = 1; face <= 6; face++) {
                    byRank[game.rank(n, face)] = 10 * n + face;
                }
            }
            int best = NONE;
            Ratio most = null;
            for (int rank = presentRank() + 1; rank < byRank.length; rank++) {
                if (byRank[rank] > 0) {
                    Ratio chance = leastChance(p, byRank[rank] / 10, byRank[rank] % 10);
                    if (most == null || chance.compare(most) > 0) {
                        most = chance;
                        best = byRank[rank];
                    }
                }
            }
            return best;
        }

        private int turnOrNone() {
            return game.playersIn() == 1 ? NONE : game.turn;
        }

        int advice() {
            if (!game.dealt) {
                return STATE;
            }
            if (game.n == 0) {
                return 0;
            }
            int p = game.turn;
            Ratio first = Ratio.of(1).minus(leastChance(p, game.n, game.face));
            Ratio second = exactChance(p, game.n, game.face);
            int best = bestClaim(p);
            if (best == NONE) {
                return first.compare(second) >= 0 ? 1 : 2;
            }
            Ratio third = leastChance(p, best / 10, best % 10);
            if (first.compare(second) >= 0 && first.compare(third) >= 0) {
                return 1;
            }
            return second.compare(third) >= 0 ? 2 : 0;
        }

        // matrices

        private boolean isEntry(int row, int column) {
            return row >= 0 && row < game.matrix.length && column >= 0 && column < game.matrix[0].length;
        }

        int entry(int row, int column) {
            return isEntry(row, column) ? game.matrix[row][column] : BAD;
        }

        Solved solution() {
            return SOLVED.computeIfAbsent(Arrays.deepToString(game.matrix), key -> Solved.first(game.matrix));
        }

        long value(boolean denominator) {
            Ratio value = solution().value;
            return (denominator ? value.under : value.over).longValueExact();
        }

        long share(boolean column, int i, boolean denominator) {
            if (column ? !isEntry(0, i) : !isEntry(i, 0)) {
                return BAD;
            }
            Ratio share = column ? solution().columnShares[i] : solution().rowShares[i];
            return (denominator ? share.under : share.over).longValueExact();
        }

        int saddle(int row, int column) {
            if (!isEntry(row, column)) {
                return BAD;
            }
            int least = Arrays.stream(game.matrix[row]).min().getAsInt();
            int greatest = Arrays.stream(game.matrix).mapToInt(r -> r[column]).max().getAsInt();
            return least == game.matrix[row][column] && greatest == least ? 1 : 0;
        }

        int count(int what) {
            if (what < 0 || what > 13) {
                return BAD;
            }
            boolean claim = game.n > 0;
            return new int[] {game.players, game.playersIn(), turnOrNone(), game.dealt ? 1 : 0,
                claim ? game.n : NONE, claim ? game.face : NONE, claim ? game.claimant : NONE,
                game.wild ? 1 : 0, game.rounds, game.rightDoubts, game.matrix.length,
                game.matrix[0].length, history.size(), text.length()}[what];
        }

        long digest() {
            List<Long> numbers = new ArrayList<>();
            for (int what = 0; what <= 13; what++) {
                numbers.add((long) count(what));
            }
            for (int p = 0; p < game.players; p++) {
                for (int what = 0; what <= 2; what++) {
                    numbers.add((long) player(p, what));
                }
                for (int i = 0; game.dealt && i < game.dice[p]; i++) {
                    numbers.add((long) die(p, i));
                }
            }
            for (int p = 0; game.dealt && p < game.players; p++) {
                if (game.dice[p] > 0) {
                    numbers.add((long) bestClaim(p));
                    numbers.add(chance(p, 3, 4, 0));
                    numbers.add(chance(p, 3, 4, 1));
                }
            }
            if (game.dealt) {
                numbers.add((long) advice());
            }
            for (int[] row : game.matrix) {
                for (int entry : row) {
                    numbers.add((long) entry);
                }
            }
            addFraction(numbers, solution().value);
            for (Ratio share : solution().rowShares) {
                addFraction(numbers, share);
            }
            for (Ratio share : solution().columnShares) {
                addFraction(numbers, share);
            }
            for (char letter : text.toCharArray()) {
                numbers.add((long) letter);
            }
            long h = 131;
            for (long number : numbers) {
                h = 31 * h + number;
            }
            return h;
        }

        private static void addFraction(List<Long> numbers, Ratio fraction) {
            numbers.add(fraction.over.longValueExact());
            numbers.add(fraction.under.longValueExact());
        }
    }

    /** The first solution of a matrix, as its definition says it. */
    private static final class Solved {
        int rowSet;
        Ratio value;
        Ratio[] rowShares;
        Ratio[] columnShares;

        static Solved first(int[][] matrix) {
            int rows = matrix.length;
            int columns = matrix[0].length;
            for (int size = 1; size <= 4; size++) {
                for (int rowSet = 1; rowSet < 1 << rows; rowSet++) {
                    for (int columnSet = 1; columnSet < 1 << columns; columnSet++) {
                        if (Integer.bitCount(rowSet) == size && Integer.bitCount(columnSet) == size) {
                            Solved solved = ofPart(matrix, rowSet, columnSet);
                            if (solved != null) {
                                return solved;
                            }
                        }
                    }
                }
            }
            throw new IllegalStateException("no solution");
        }

        private static Solved ofPart(int[][] matrix, int rowSet, int columnSet) {
            int rows = matrix.length;
            int columns = matrix[0].length;
            int[][] turned = new int[columns][rows];
            for (int row = 0; row < rows; row++) {
                for (int column = 0; column < columns; column++) {
                    turned[column][row] = matrix[row][column];
                }
            }
            Ratio[] byRows = shares(turned, columnSet, rowSet);
            Ratio[] byColumns = shares(matrix, rowSet, columnSet);
            if (byRows == null || byColumns == null) {
                return null;
            }
            Solved solved = new Solved();
            solved.rowSet = rowSet;
            solved.value = byRows[rows];
            solved.rowShares = Arrays.copyOf(byRows, rows);
            solved.columnShares = Arrays.copyOf(byColumns, columns);
            if (byColumns[columns].compare(solved.value) != 0) {
                throw new IllegalStateException("two values");
            }
            for (int column = 0; column < columns; column++) {
                if (sum(turned[column], solved.rowShares).compare(solved.value) < 0) {
                    return null;
                }
            }
            for (int row = 0; row < rows; row++) {
                if (sum(matrix[row], solved.columnShares).compare(solved.value) > 0) {
                    return null;
                }
            }
            return solved;
        }

        private static Ratio sum(int[] entries, Ratio[] shares) {
            Ratio sum = Ratio.of(0);
            for (int i = 0; i < entries.length; i++) {
                sum = sum.plus(Ratio.of(entries[i]).times(shares[i]));
            }
            return sum;
        }

        /** The shares of the places, behind them the value; null if there is none or more than one, or a negative share. */
        private static Ratio[] shares(int[][] lines, int lineSet, int placeSet) {
            int size = Integer.bitCount(placeSet);
            int places = lines[0].length;
            int[] chosen = new int[size];
            int next = 0;
            for (int place = 0; place < places; place++) {
                if ((placeSet >> place & 1) == 1) {
                    chosen[next++] = place;
                }
            }
            Ratio[][] equations = new Ratio[size + 1][size + 2];
            next = 0;
            for (int line = 0; line < lines.length; line++) {
                if ((lineSet >> line & 1) == 1) {
                    for (int i = 0; i < size; i++) {
                        equations[next][i] = Ratio.of(lines[line][chosen[i]]);
                    }
                    equations[next][size] = Ratio.of(-1);
                    equations[next][size + 1] = Ratio.of(0);
                    next++;
                }
            }
            Arrays.fill(equations[size], Ratio.of(1));
            equations[size][size] = Ratio.of(0);
            Ratio[] answer = eliminate(equations);
            if (answer == null) {
                return null;
            }
            Ratio[] shares = new Ratio[places + 1];
            Arrays.fill(shares, Ratio.of(0));
            for (int i = 0; i < size; i++) {
                if (answer[i].over.signum() < 0) {
                    return null;
                }
                shares[chosen[i]] = answer[i];
            }
            shares[places] = answer[size];
            return shares;
        }

        private static Ratio[] eliminate(Ratio[][] equations) {
            int size = equations.length;
            for (int column = 0; column < size; column++) {
                int pivot = column;
                while (pivot < size && equations[pivot][column].over.signum() == 0) {
                    pivot++;
                }
                if (pivot == size) {
                    return null;
                }
                Ratio[] swapped = equations[pivot];
                equations[pivot] = equations[column];
                equations[column] = swapped;
                for (int row = 0; row < size; row++) {
                    if (row != column) {
                        Ratio factor = equations[row][column].divided(swapped[column]);
                        for (int i = column; i <= size; i++) {
                            equations[row][i] = equations[row][i].minus(factor.times(swapped[i]));
                        }
                    }
                }
            }
            Ratio[] answer = new Ratio[size];
            for (int i = 0; i < size; i++) {
                answer[i] = equations[i][size].divided(equations[i][i]);
            }
            return answer;
        }
    }

    /** A fraction in lowest terms with a positive denominator. */
    private static final class Ratio {
        final BigInteger over;
        final BigInteger under;

        Ratio(BigInteger numerator, BigInteger denominator) {
            BigInteger factor = numerator.gcd(denominator);
            BigInteger signed = denominator.signum() < 0 ? factor.negate() : factor;
            over = numerator.divide(signed);
            under = denominator.divide(signed);
        }

        static Ratio of(long whole) {
            return new Ratio(BigInteger.valueOf(whole), BigInteger.ONE);
        }

        Ratio plus(Ratio other) {
            return new Ratio(over.multiply(other.under).add(other.over.multiply(under)), under.multiply(other.under));
        }

        Ratio minus(Ratio other) {
            return plus(new Ratio(other.over.negate(), other.under));
        }

        Ratio times(Ratio other) {
            return new Ratio(over.multiply(other.over), under.multiply(other.under));
        }

        Ratio divided(Ratio other) {
            return new Ratio(over.multiply(other.under), under.multiply(other.over));
        }

        int compare(Ratio other) {
            return over.multiply(other.under).compareTo(other.over.multiply(under));
        }
    }
}
