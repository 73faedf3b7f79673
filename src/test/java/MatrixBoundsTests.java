/** The boundary cases of matrices: promises 22 to 25, and "Matrices" that they rest on. */
public final class MatrixBoundsTests extends Bounds {
    private static final String ZEROS = "0 0 0 0/0 0 0 0/0 0 0 0/0 0 0 0";

    public static void main(String[] args) {
        allSizes();
        atFirst();
        leastAndGreatestEntries();
        noShareIsNegative();
        eachHasTheSumOne();
        onlyOneAnswer();
        atLeastTheValue();
        atMostTheValue();
        fewestRows();
        leastSetOfRows();
        leastSetOfColumns();
        wholeMatrices();
        notInTheSolution();
        entriesTold();
        valuesTold();
        sharesTold();
        saddlesTold();
        placesOfANewMatrix();
        end();
    }

    private static void allSizes() {
        sentence(0, "A matrix has 1 to 4 rows and 1 to 4 columns of entries");
        for (int rows = 1; rows <= 4; rows++) {
            for (int columns = 1; columns <= 4; columns++) {
                StringBuilder text = new StringBuilder();
                for (int cell = 0; cell < rows * columns; cell++) {
                    text.append(cell == 0 ? "" : cell % columns == 0 ? "/" : " ").append(cell + 10);
                }
                Play x = Play.withMatrix(text.toString());
                x.due("count(10)", rows);
                x.due("count(11)", columns);
                for (int cell = 0; cell < rows * columns; cell++) {
                    x.due("entry(" + cell / columns + ", " + cell % columns + ")", cell + 10);
                }
                // rising entries: the last row and the first column
                x.dueFraction("value(", (rows - 1) * columns + 10, 1);
                dueShares(x, false, "0 ".repeat(rows - 1) + "1");
                dueShares(x, true, "1" + " 0".repeat(columns - 1));
            }
        }
    }

    private static void atFirst() {
        sentence(0, "at first one row with one entry, 0");
        Play x = new Play();
        x.dueForAll(1, "count(10)", "count(11)", "saddle(0, 0)");
        x.due("entry(0, 0)", 0);
        x.dueForAll(BAD, "entry(0, 1)", "entry(1, 0)", "saddle(1, 0)", "saddle(0, 1)");
        x.dueFraction("value(", 0, 1);
        dueShares(x, false, "1");
        dueShares(x, true, "1");
    }

    private static void leastAndGreatestEntries() {
        sentence(0, "entries from -99 to 99");
        dueValue("-99", -99, 1);
        dueValue("99", 99, 1);
        dueValue("99-99/-99 98", -99, 395);
        dueValue("-99 99 99 99/99-99 99 99/99 99-99 99/99 99 99-99", 99, 2);
        dueValue("99-99-99-99/-99 99-99-99/-99-99 99-99/-99-99-99 99", -99, 2);
        dueValue("97-89 13-71/-83 91-67 19/29-61 79-53/-37 43-23 73", 1441, 6559);
    }

    private static void dueValue(String text, long numerator, long denominator) {
        Play.withMatrix(text).dueFraction("value(", numerator, denominator);
    }

    // ---- solutions: the shares of the rows, then those of the columns

    private static void dueSolution(String text, String rows, String columns) {
        Play x = Play.withMatrix(text);
        dueShares(x, false, rows);
        dueShares(x, true, columns);
    }

    private static void dueShares(Play x, boolean column, String shares) {
        String[] each = shares.split(" ");
        for (int i = 0; i < each.length; i++) {
            String[] numbers = (each[i] + "/1").split("/");
            x.dueFraction("share(" + column + ", " + i + ", ", Long.parseLong(numbers[0]), Long.parseLong(numbers[1]));
        }
        x.dueForAll(BAD, "share(" + column + ", -1, false)", "share(" + column + ", " + each.length + ", true)");
    }

    private static void noShareIsNegative() {
        sentence(0, "shares of its rows and shares of its columns, none negative");
        // of two rows one has the share 0: no column alone is a solution
        dueSolution("0 0/1-1/-1 1", "1 0 0", "1/2 1/2");
        dueSolution("4 0/2 2/0 4", "0 1 0", "1/2 1/2");
        dueSolution("5 0/0 5/4 4", "0 0 1", "4/5 1/5");
        // both rows would have the shares 3/2 and -1/2
        dueSolution("2 1/3 0", "1 0", "0 1");
        dueSolution("1 2 3/0 5 1/2 2 2", "0 0 1", "1 0 0");
        // what comes earlier fails by a negative share alone: the columns 0 and 2 by -1/4 and 5/4
        dueSolution("-3 0-2/2-3-1", "1/2 1/2", "0 1/4 3/4");
        // the rows 0 and 1 by 5/4 and -1/4
        dueSolution("3 2/3-2/-1 3", "4/5 0 1/5", "1/5 4/5");
        // the rows 0 and 1 by -1 and 2
        dueSolution("3-1/2 0/-1 3", "1/2 0 1/2", "1/2 1/2");
        // the columns 0, 1 and 3 by 3/2, 1 and -3/2
        dueSolution("2-1 1 1/1-1 1 0/-3 3 2 0/0 2 0 1", "10/21 0 2/21 3/7", "1/3 1/3 1/3 0");
        // the rows 2 and 3 by 6 and -5
        dueSolution("0-2 3 0/2 3-2 0/-1 3-2 2/-3 3-3 1", "14/29 9/29 6/29 0", "10/29 0 4/29 15/29");
    }

    private static void eachHasTheSumOne() {
        sentence(0, "each with the sum 1");
        dueSolution("1 0 0/0 1 0/0 0 1", "1/3 1/3 1/3", "1/3 1/3 1/3");
        dueSolution("0 1-1/-1 0 1/1-1 0", "1/3 1/3 1/3", "1/3 1/3 1/3");
        dueSolution("1 2/3-4", "7/8 1/8", "3/4 1/4");
        dueSolution("2-1/-1 1", "2/5 3/5", "2/5 3/5");
        dueSolution("97-89 13-71/-83 91-67 19/29-61 79-53/-37 43-23 73",
                "1315/6559 0 147/937 4215/6559", "2430/6559 2823/6559 1306/6559 0");
    }

    private static void onlyOneAnswer() {
        sentence(0, "and no other numbers with the sum 1, also negative ones, have this property with any v");
        dueSolution("0 0/0 0", "1 0", "1 0");
        dueSolution("1-1/1-1/-1 1", "1/2 0 1/2", "1/2 1/2");
        dueSolution("1 1-1/-1-1 1", "1/2 1/2", "1/2 0 1/2");
        dueSolution("2 2 0/0 0 2/2 2 0", "1/2 1/2 0", "1/2 0 1/2");
    }

    private static void atLeastTheValue() {
        sentence(0, "in each other column of the matrix the sum of the entries times the shares of the rows is at least v");
        dueSolution("0 5 0", "1", "1 0 0");
        dueSolution("5 0 0", "1", "0 1 0");
        dueSolution("1 0 1", "1", "0 1 0");
        dueSolution("1 1", "1", "1 0");
        // the columns 0 and 1 as long as column 2 is not worth less to the rows than they are
        dueSolution("4 1 4/2 5 3", "1/2 1/2", "2/3 1/3 0");
        dueSolution("4 1 3/2 5 3", "1/2 1/2", "2/3 1/3 0");
        dueSolution("4 1 2/2 5 3", "1/3 2/3", "1/3 0 2/3");
        dueSolution("1-1 5/-1 1-5", "1/2 1/2", "1/2 1/2 0");
    }

    private static void atMostTheValue() {
        sentence(0, "and in each other row the sum of the entries times the shares of the columns is at most v");
        dueSolution("0/5/5", "0 1 0", "1");
        dueSolution("0/5/0", "0 1 0", "1");
        dueSolution("5/5", "1 0", "1");
        dueSolution("1 1/1-1/-1 1", "1 0 0", "1 0");
        // the rows 0 and 1 as long as row 2 is not worth more than they are
        dueSolution("5 0/0 5/2 2", "1/2 1/2 0", "1/2 1/2");
        dueSolution("5 0/0 5/2 3", "1/2 1/2 0", "1/2 1/2");
        dueSolution("5 0/0 5/3 3", "0 0 1", "3/5 2/5");
    }

    private static void fewestRows() {
        sentence(0, "The first solution is the one with the fewest rows");
        // the rows and columns 0 and 1 are a solution too
        dueSolution("1-1 0/-1 1 0/0 0 0", "0 0 1", "0 0 1");
        dueSolution("1 0-1/0 0 0/-1 0 1", "0 1 0", "0 1 0");
        dueSolution("1 2 3/0 5 1/2 2 2", "0 0 1", "1 0 0");
    }

    private static void leastSetOfRows() {
        sentence(0, "of several the one whose set of rows is least, as the sum of the powers of 2 with their numbers");
        dueSolution("3 3/3 3", "1 0", "1 0");
        dueSolution("0/5/5/5", "0 1 0 0", "1");
        dueSolution("1-1/1-1/-1 1", "1/2 0 1/2", "1/2 1/2");
        dueSolution("1-1/-1 1/1-1/-1 1", "1/2 1/2 0 0", "1/2 1/2");
        // the rows 1 and 2 are 6, less than the rows 0 and 3, which are 9
        dueSolution("1-1-1 0/1-1 0-1/-1 1 0 1/-1 1 1 0", "0 1/2 1/2 0", "1/2 1/2 0 0");
    }

    private static void leastSetOfColumns() {
        sentence(0, "of several the one whose set of columns is least");
        dueSolution("3 3/3 3", "1 0", "1 0");
        dueSolution("5 0 0 0", "1", "0 1 0 0");
        dueSolution("1 1-1/-1-1 1", "1/2 1/2", "1/2 0 1/2");
        dueSolution("1-1 1-1/-1 1-1 1", "1/2 1/2", "1/2 1/2 0 0");
        // the columns 1 and 2 are 6, less than the columns 0 and 3, which are 9
        dueSolution("-1-1 1 1/1 1-1-1/1 0 0-1/0 1-1 0", "1/2 1/2 0 0", "0 1/2 1/2 0");
    }

    private static void wholeMatrices() {
        sentence(0, "A part of a matrix is a set of its rows and a set of as many of its columns.");
        dueSolution("4 0 0 0/0 3 0 0/0 0 2 0/0 0 0 1", "3/25 4/25 6/25 12/25", "3/25 4/25 6/25 12/25");
        dueSolution("-99 99 99 98/99-99 99 99/99 99-98 99/99 99 99-97",
                "38612/154841 38612/154841 38808/154841 38809/154841",
                "38415/154841 38612/154841 38808/154841 39006/154841");
        dueValue("-99 99 99 98/99-99 99 99/99 99-98 99/99 99 99-97", 7684083, 154841);
        dueSolution("1 2 3 4", "1", "1 0 0 0");
        dueSolution("1/2/3/4", "0 0 0 1", "1");
    }

    private static void notInTheSolution() {
        sentence(0, "Rows and columns that are not in it have the share 0.");
        dueSolution(ZEROS, "1 0 0 0", "1 0 0 0");
        dueSolution("6 0 9/0 3 9/-9-9-9", "1/3 2/3 0", "1/3 2/3 0");
    }

    // ---- promises 22 to 25

    private static void entriesTold() {
        sentence(22, "Returns the entry; BAD if there is no such row or column.");
        Play x = Play.withMatrix("1 2 3/4 5-99");
        x.due("entry(0, 0)", 1);
        x.due("entry(0, 2)", 3);
        x.due("entry(1, 0)", 4);
        x.due("entry(1, 2)", -99);
        dueBadPlaces(x, "entry(");
    }

    /** For a matrix of two rows and three columns. */
    private static void dueBadPlaces(Play x, String name) {
        x.dueForAll(BAD, name + "-1, 0)", name + "2, 0)", name + "3, 0)", name + "4, 0)", name + "LEAST, 0)", name + "MOST, 0)");
        x.dueForAll(BAD, name + "0, -1)", name + "0, 3)", name + "1, 3)", name + "0, 4)", name + "0, LEAST)", name + "0, MOST)");
        x.dueForAll(BAD, name + "-1, -1)", name + "2, 3)", name + "1, -1)", name + "-1, 3)", name + "1, -2)");
    }

    private static void valuesTold() {
        sentence(23, "a fraction in lowest terms with a positive denominator (0 is 0/1)");
        dueValue("0", 0, 1);
        dueValue("-0", 0, 1);
        dueValue("1-1/-1 1", 0, 1);
        dueValue("0 1-1/-1 0 1/1-1 0", 0, 1);
        dueValue(ZEROS, 0, 1);
        dueValue("7-7/-7 6", -7, 27);
        dueValue("-7 7/7-6", 7, 27);
        dueValue("6 0/0 6", 3, 1);
        dueValue("-6 0/0-6", -3, 1);
        dueValue("5 0/0 5", 5, 2);
        dueValue("-1-2/-3-4", -2, 1);
        dueValue("-99-99/-99-99", -99, 1);
        dueValue("1 0 0/0 1 0/0 0 1", 1, 3);
    }

    private static void sharesTold() {
        sentence(24, "Tells a share in the first solution, a fraction in lowest terms (0 is 0/1).");
        dueSolution("6 0/0 6", "1/2 1/2", "1/2 1/2");
        dueSolution("-6 0/0-6", "1/2 1/2", "1/2 1/2");
        dueSolution("9 0/0 3", "1/4 3/4", "1/4 3/4");
        dueSolution("7-7/-7 6", "13/27 14/27", "13/27 14/27");
        sentence(24, "BAD if there is no such row or column");
        Play x = Play.withMatrix("1 2 3/4 5-99");
        for (String last : new String[] {"false)", "true)"}) {
            x.dueForAll(BAD, "share(false, -1, " + last, "share(false, 2, " + last, "share(false, 3, " + last);
            x.dueForAll(BAD, "share(true, -1, " + last, "share(true, 3, " + last, "share(true, 4, " + last);
            x.dueForAll(BAD, "share(false, LEAST, " + last, "share(true, MOST, " + last, "share(false, MOST, " + last);
        }
        dueSolution("1 2 3/4 5-99", "103/105 2/105", "34/35 0 1/35");
    }

    private static void saddlesTold() {
        sentence(25, "no entry of its row is less than its entry, and none of its column greater");
        dueSaddles("0", "1");
        dueSaddles(ZEROS, "1111111111111111");
        dueSaddles("3 1 2 1", "0101");
        dueSaddles("3/1/3/2", "1010");
        dueSaddles("1 2/3 4", "0010");
        dueSaddles("2 1/4 3", "0001");
        dueSaddles("4 3/2 1", "0100");
        dueSaddles("3 4/1 2", "1000");
        dueSaddles("1-1/-1 1", "0000");
        dueSaddles("2 2 3/1 2 0/2 2 9", "110000110");
        dueSaddles("-99 99/-99-99", "1010");
        sentence(25, "Returns 1 or 0; BAD if there is no such row or column.");
        dueBadPlaces(Play.withMatrix("1 2 3/4 5-99"), "saddle(");
    }

    /** A sign for each entry, row by row. */
    private static void dueSaddles(String text, String want) {
        Play x = Play.withMatrix(text);
        long columns = x.ask("count(11)");
        for (int i = 0; i < want.length(); i++) {
            x.due("saddle(" + i / columns + ", " + i % columns + ")", want.charAt(i) - '0');
        }
    }

    private static void placesOfANewMatrix() {
        sentence(22, "BAD if there is no such row or column");
        Play x = Play.withMatrix(ZEROS);
        x.due("entry(3, 3)", 0);
        x.dueForAll(BAD, "entry(4, 0)", "entry(0, 4)", "entry(4, 3)", "entry(3, 4)", "share(false, 4, true)", "share(true, 4, true)");
        x.write("7");
        x.ask("setMatrix()");
        x.dueForAll(BAD, "entry(1, 0)", "entry(0, 1)", "entry(3, 3)", "saddle(3, 3)", "share(false, 1, true)", "share(true, 1, true)");
        x.dueFraction("value(", 7, 1);
        x.write("7 8");
        x.ask("setMatrix()");
        x.due("entry(0, 1)", 8);
        x.dueForAll(BAD, "entry(1, 0)", "saddle(1, 1)", "share(false, 1, true)");
        dueShares(x, true, "1 0");
        x.write("7/8");
        x.ask("setMatrix()");
        x.due("entry(1, 0)", 8);
        x.dueForAll(BAD, "entry(0, 1)", "saddle(1, 1)", "share(true, 1, true)");
        dueShares(x, false, "0 1");
        x.ask("undo()");
        x.dueForAll(BAD, "entry(1, 0)", "share(false, 1, true)");
        dueShares(x, true, "1 0");
        x.ask("undo()");
        x.dueFraction("value(", 7, 1);
        x.ask("undo()");
        x.due("saddle(3, 3)", 1);
        dueShares(x, true, "1 0 0 0");
        x.ask("undo()");
        x.dueForAll(BAD, "entry(1, 0)", "entry(0, 1)");
    }
}
