/** The boundary cases of texts: promises 2 to 4, 7 and 12, and "Text" that they rest on. */
public final class TextBoundsTests extends Bounds {
    private static final String BLANKS = " ".repeat(60);
    /** A matrix of 16 entries in 51 bytes, as many as any can have without blanks. */
    private static final String WIDEST = "-99-98-97-96/-95-94-93-92/-91-90-89-88/-87-86-85-84";

    public static void main(String[] args) {
        lettersOfAllKinds();
        fullText();
        clearing();
        emptyTexts();
        facesOfAllKinds();
        cupsOfThoseWhoAreIn();
        blanksAmongFaces();
        tooManyFaces();
        tooFewFaces();
        slashBehindTheLastCup();
        dicePrefixes();
        entriesOfAllKinds();
        threeDigits();
        blanksBetweenEntries();
        blanksAmongEntries();
        rowsOfOneLength();
        fourOfBoth();
        matricesThatEndTooEarly();
        textsOf60Bytes();
        faultIsOfTheTextAlone();
        dealing();
        deals();
        settingMatrices();
        refusedMatrices();
        end();
    }

    private static void dueFault(boolean matrix, String text, int want) {
        Play x = Play.withText(text);
        x.due("fault(" + matrix + ")", want);
    }

    private static void dueMatrixFaults(int want, String... texts) {
        for (String text : texts) {
            dueFault(true, text, want);
        }
    }

    private static void dueDiceFaults(int want, String... texts) {
        for (String text : texts) {
            dueFault(false, text, want);
        }
    }

    /** Each byte behind the text: some make it whole, some can stand and leave it open, no other can stand. */
    private static void dueFaultBehind(boolean matrix, String text, String makeWhole, String leaveOpen) {
        for (int letter = 0; letter <= 127; letter++) {
            int due = makeWhole.indexOf(letter) >= 0 ? NONE : text.length() + (leaveOpen.indexOf(letter) >= 0 ? 1 : 0);
            Play x = Play.withText(text + (char) letter);
            due("fault(" + matrix + ") of '" + text + "' with byte " + letter, x.ask("fault(" + matrix + ")"), due);
        }
    }

    // ---- promises 2 and 3

    private static void lettersOfAllKinds() {
        sentence(2, "the byte, 0 to 127");
        Play x = new Play();
        x.dueForAll(BAD, "type(-1)", "type(128)", "type(LEAST)", "type(MOST)", "type(255)", "type(256)", "type(305)");
        x.dueForAll(BAD, "type(-128)", "type(-207)", "type(65585)");
        x.due("count(13)", 0);
        x.due("type(0)", 1);
        x.due("type(127)", 2);
        x.due("type(1)", 3);
        x.due("type(126)", 4);
        x.dueDigest("\0\177\1\176");
        for (int letter = 0; letter <= 127; letter++) {
            Play y = Play.withText(String.valueOf((char) letter));
            y.dueDigest(String.valueOf((char) letter));
        }
    }

    private static void fullText() {
        sentence(2, "Returns the length of the text; BAD; FULL if the text has 60 bytes.");
        Play x = Play.withText("6".repeat(59));
        x.due("count(13)", 59);
        x.due("type(48)", 60);
        x.dueForAll(FULL, "type(49)", "type(0)", "type(127)");
        x.dueForAll(BAD, "type(-1)", "type(128)");
        x.due("count(13)", 60);
        x.dueDigest("6".repeat(59) + "0");
        x.due("clearText()", 60);
        x.due("type(49)", 1);
        x.dueDigest("1");
        sentence(0, "There is a text of at most 60 bytes.");
        for (int i = 2; i <= 60; i++) {
            x.due("type(50)", i);
        }
        x.due("type(50)", FULL);
        x.dueDigest("1" + "2".repeat(59));
    }

    private static void clearing() {
        sentence(3, "Returns the length that it had.");
        Play x = new Play();
        x.due("clearText()", 0);
        x.due("type(49)", 1);
        x.due("clearText()", 1);
        x.due("clearText()", 0);
        sentence(3, "Empties the text.");
        x.write("1".repeat(60));
        x.due("clearText()", 60);
        x.due("count(13)", 0);
        x.due("fault(true)", 0);
        x.dueDigest("");
        x.write("4");
        x.due("setMatrix()", 1);
        x.due("entry(0, 0)", 4);
        x.due("count(12)", 1);
    }

    // ---- promise 4, dice

    private static void emptyTexts() {
        sentence(0, "or the length of the text if it ends too early");
        dueDiceFaults(0, "");
        dueMatrixFaults(0, "");
        dueDiceFaults(1, " ", "1");
        dueMatrixFaults(1, " ", "-");
        dueDiceFaults(59, BLANKS.substring(1));
        dueMatrixFaults(59, BLANKS.substring(1));
        dueDiceFaults(60, BLANKS);
        dueMatrixFaults(60, BLANKS);
    }

    private static void facesOfAllKinds() {
        sentence(0, "A face is a digit from 1 to 6.");
        dueFaultBehind(false, "", "", " 123456");
        dueFaultBehind(false, "1111", "", " 123456");
        dueFaultBehind(false, "11111", "", " /");
        dueFaultBehind(false, "11111/", "", " 123456");
        dueFaultBehind(false, "11111/2222", "123456", " ");
        dueFaultBehind(false, "11111/22222", " ", "");
        dueDiceFaults(0, "0", "7", "0".repeat(60), "-1", "a", "\0");
    }

    private static void cupsOfThoseWhoAreIn() {
        sentence(0, "There is a cup for each player who is not out, also when the game is over, by ascending numbers, "
                + "with as many faces as the player has dice.");
        Play x = Play.withDice(true, 1, 2, 0, 0, 3);
        dueFaultOf(x, "1/22/333", NONE);
        dueFaultOf(x, "333/22/1", 1);
        dueFaultOf(x, "1/22///333", 5);
        dueFaultOf(x, "1/22/33", 7);
        dueFaultOf(x, "1/22/333/", 8);
        Play y = Play.withDice(true, 0, 0, 4);
        y.due("count(2)", NONE);
        dueFaultOf(y, "3333", NONE);
        dueFaultOf(y, "333", 3);
        dueFaultOf(y, "33333", 4);
        dueFaultOf(y, "/3333", 0);
        dueFaultOf(y, "3333/", 4);
        for (int players = 2; players <= 5; players++) {
            Play z = new Play();
            z.ask("newGame(" + players + ")");
            dueFaultOf(z, "11111/".repeat(players - 1) + "22222", NONE);
            dueFaultOf(z, "11111/".repeat(players) + "22222", 6 * players - 1);
            dueFaultOf(z, "11111/".repeat(players - 2) + "22222", 6 * players - 7);
        }
        Play both = Play.withDice(true, 1, 1);
        dueFaultOf(both, "1/1", NONE);
        dueFaultOf(both, "11/1", 1);
        dueFaultOf(both, "1/11", 3);
        dueFaultOf(both, "1/", 2);
        dueFaultOf(both, "/1", 0);
    }

    private static void dueFaultOf(Play x, String text, int want) {
        x.write(text);
        x.due("fault(false)", want);
    }

    private static void blanksAmongFaces() {
        sentence(0, "Blanks (byte 32) can stand ahead of and behind faces, entries and \"/\".");
        dueDiceFaults(NONE, "11111/22222", " 11111/22222", "11111/22222 ", "11111 /22222", "11111/ 22222");
        dueDiceFaults(NONE, "1 1 1 1 1 / 2 2 2 2 2", "   11   111   /   22222   ", "1111  1/2  2222");
        dueDiceFaults(5, "11111\t/22222", "11111\0/22222", "11111\37/22222", "11111!/22222", "11111\n/22222");
    }

    private static void tooManyFaces() {
        sentence(0, "also that of a face or an entry too many in a cup or a row");
        dueDiceFaults(5, "111111/22222", "111112/22222", "111111", "111117");
        dueDiceFaults(6, "11111 1/22222");
        dueDiceFaults(11, "11111/222222", "11111/222221 ");
        dueDiceFaults(13, "11111/22222  2");
        dueMatrixFaults(8, "1 2 3 4 5", "1 2 3 4 5/1 2 3 4 5", "1 2/3 4 5", "1 2/3 4 -5");
        dueMatrixFaults(7, "1 2 3 4-5", "1 2/3 4-5", "1 2 3 4-");
        dueMatrixFaults(4, "1/2 3", "1/2 -3", "1/-2-3");
        dueMatrixFaults(3, "1/2-3");
    }

    private static void tooFewFaces() {
        sentence(0, "of a \"/\" ahead of which a cup or a row has too few");
        dueDiceFaults(0, "/", "/11111", "//");
        dueDiceFaults(1, " /", "1/");
        dueDiceFaults(4, "1111/22222");
        dueDiceFaults(6, "11111//22222", "11111//");
        dueDiceFaults(7, "11111/ /22222");
        dueDiceFaults(10, "11111/2222/");
        dueMatrixFaults(0, "/", "/1");
        dueMatrixFaults(1, " /1");
        dueMatrixFaults(2, "1//1", "1//");
        dueMatrixFaults(3, "1/ /1");
        dueMatrixFaults(5, "1 2/3/4 5", "1 2/3/");
        dueMatrixFaults(9, "1 2/3 4/5/6 7");
    }

    private static void slashBehindTheLastCup() {
        sentence(0, "and of a \"/\" behind the last cup or the fourth row");
        dueDiceFaults(11, "11111/22222/", "11111/22222/33333");
        dueDiceFaults(13, "11111/22222  /");
        dueMatrixFaults(7, "1/2/3/4/", "1/2/3/4/5");
        dueMatrixFaults(8, "1/2/3/4 /");
        dueMatrixFaults(NONE, "1/2/3/4", "1/2/3/4 ");
        dueMatrixFaults(6, "1/2/3/");
    }

    private static void dicePrefixes() {
        sentence(4, "Returns the index; NONE if there is no fault.");
        String whole = " 12 3 45 / 66666 ";
        for (int length = 0; length < whole.length(); length++) {
            dueFault(false, whole.substring(0, length), length == whole.length() - 1 ? NONE : length);
        }
        dueFault(false, whole, NONE);
    }

    // ---- promise 4, matrices

    private static void entriesOfAllKinds() {
        sentence(4, "whether it is read as a matrix, else as dice");
        dueFaultBehind(true, "", "0123456789", " -");
        dueFaultBehind(true, "-", "0123456789", "");
        dueFaultBehind(true, "7", " 0123456789", "-/");
        dueFaultBehind(true, "-7", " 0123456789", "-/");
        dueFaultBehind(true, "12", " ", "-/");
        dueFaultBehind(true, "1 2 3 ", " 0123456789", "-/");
        dueFaultBehind(true, "1 2 3 4", " 0123456789", "/");
        dueFaultBehind(true, "1 2 3 4 ", " ", "/");
        dueFaultBehind(true, "1 2/", "", " -0123456789");
        dueFaultBehind(true, "1 2/3", "", " -0123456789");
        dueFaultBehind(true, "1 2/3 ", "0123456789", " -");
        dueFaultBehind(true, "1 2/3 4", " 0123456789", "/");
        dueFaultBehind(true, "1 2/3 44", " ", "/");
        dueFaultBehind(true, "1/2/3/4", " 0123456789", "");
        dueFaultBehind(true, "1/2/3/4 ", " ", "");
        dueFault(false, "1 2/3 4", 3);
        dueFault(true, "11111/22222", 2);
    }

    private static void threeDigits() {
        sentence(0, "Digits are one or two decimal digits, as many as there are (a third digit cannot stand)");
        dueMatrixFaults(NONE, "1", "12", "-1", "-12", "00", "09", "-00", "99", "-99", "1-23", "12 34/56 78");
        dueMatrixFaults(2, "123", "000", "007", "100", "999");
        dueMatrixFaults(3, "-123", "-000", "-100", "-999");
        dueMatrixFaults(4, "1 234", "1/234", "1-234");
        dueMatrixFaults(5, "12 345", "12/345", "-1 234", "-1-234");
        Play x = Play.withMatrix("12");
        x.due("count(11)", 1);
        x.due("entry(0, 0)", 12);
    }

    private static void blanksBetweenEntries() {
        sentence(0, "entries need at least one blank between them, unless the second one begins with \"-\"");
        dueEntries("1 2", 1, 2);
        dueEntries("1   2", 1, 2);
        dueEntries("12", 12);
        dueEntries("1-2", 1, -2);
        dueEntries("12-34", 12, -34);
        dueEntries("-1-2-3-4", -1, -2, -3, -4);
        dueEntries("-1 -2 -3 -4", -1, -2, -3, -4);
        dueEntries("-1 2-3 4", -1, 2, -3, 4);
        dueEntries("12 34 56 78", 12, 34, 56, 78);
        dueEntries("0-0 00-00", 0, 0, 0, 0);
        dueEntries("05-05 5-5", 5, -5, 5, -5);
        dueEntries("99-99 10-10", 99, -99, 10, -10);
    }

    private static void dueEntries(String text, int... want) {
        Play x = Play.withText(text);
        x.due("fault(true)", NONE);
        x.due("setMatrix()", want.length);
        for (int i = 0; i < want.length; i++) {
            x.due("entry(0, " + i + ")", want[i]);
        }
        x.due("entry(0, " + want.length + ")", BAD);
    }

    private static void blanksAmongEntries() {
        sentence(0, "Blanks (byte 32) can stand ahead of and behind faces, entries and \"/\".");
        dueMatrixFaults(NONE, " 1 2/3 4", "1 2/3 4 ", "1 2 /3 4", "1 2/ 3 4", "  1  2  /  3  4  ", " -1 -2 / -3 -4 ");
        dueMatrixFaults(1, "- 1", "--1", "-/1", "- ", "1\t2", "1\0", "1+2", "1,2", "1.2");
        dueMatrixFaults(2, "1- 2", "1-/2", "1--2");
        dueMatrixFaults(3, "1 - 2", "1 --2", "1/- 2", "1/--2");
    }

    private static void rowsOfOneLength() {
        sentence(0, "All rows have as many entries as the first one");
        for (int columns = 1; columns <= 4; columns++) {
            String row = "5 6 7 8".substring(0, 2 * columns - 1);
            int length = row.length();
            dueFault(true, row + "/" + row, NONE);
            dueFault(true, row + "/" + row + "/" + row + "/" + row, NONE);
            dueFault(true, row + "/" + row + " 9", 2 * length + 2);
            dueFault(true, row + "/" + row + "-9", 2 * length + 1);
            dueFault(true, row + "/" + row + "/" + row + "/" + row + " 9", 4 * length + 4);
            if (columns > 1) {
                String less = row.substring(2);
                dueFault(true, row + "/" + less, 2 * length - 1);
                dueFault(true, row + "/" + less + "/" + row, 2 * length - 1);
                dueFault(true, row + "/" + row + "/" + less + " ", 3 * length + 1);
                dueFault(true, less + "/" + row, 2 * length - 2);
            }
        }
    }

    private static void fourOfBoth() {
        sentence(0, "there are at most 4 of both");
        for (int rows = 1; rows <= 4; rows++) {
            for (int columns = 1; columns <= 4; columns++) {
                String row = "5 6 7 8".substring(0, 2 * columns - 1);
                Play x = Play.withMatrix((row + "/").repeat(rows - 1) + row);
                x.due("count(10)", rows);
                x.due("count(11)", columns);
                x.due("entry(" + (rows - 1) + ", " + (columns - 1) + ")", columns + 4);
                x.dueForAll(BAD, "entry(" + rows + ", 0)", "entry(0, " + columns + ")");
            }
        }
        dueMatrixFaults(8, "1 2 3 4 5");
        dueMatrixFaults(31, "1 2 3 4/1 2 3 4/1 2 3 4/1 2 3 4/", "1 2 3 4/1 2 3 4/1 2 3 4/1 2 3 4/1 2 3 4");
        dueMatrixFaults(32, "1 2 3 4/1 2 3 4/1 2 3 4/1 2 3 4 5");
    }

    private static void matricesThatEndTooEarly() {
        sentence(4, "Returns the index; NONE if there is no fault.");
        String whole = " 1-2/ 3 -45 /-6 7 ";
        int[] due = {0, 1, NONE, 3, NONE, 5, 6, 7, 8, 9, NONE, NONE, NONE, 13, 14, 15, 16, NONE, NONE};
        for (int length = 0; length <= whole.length(); length++) {
            dueFault(true, whole.substring(0, length), due[length]);
        }
    }

    // ---- texts at their bound, and what a fault does not rest on

    private static void textsOf60Bytes() {
        sentence(0, "There is a text of at most 60 bytes.");
        String dice = "11111/22222";
        dueDiceFaults(NONE, dice + BLANKS.substring(11), BLANKS.substring(11) + dice);
        dueDiceFaults(NONE, "11111" + BLANKS.substring(11) + "/22222");
        dueDiceFaults(59, dice + BLANKS.substring(12) + "2", dice + BLANKS.substring(12) + "/");
        dueDiceFaults(60, "11111/2222" + BLANKS.substring(10), BLANKS.substring(5) + "11111", BLANKS.substring(6) + "11111/");
        dueMatrixFaults(NONE, WIDEST, WIDEST + BLANKS.substring(51), BLANKS.substring(51) + WIDEST);
        dueMatrixFaults(NONE, BLANKS.substring(1) + "7", BLANKS.substring(3) + "-77");
        dueMatrixFaults(59, WIDEST + BLANKS.substring(52) + "/", WIDEST + BLANKS.substring(52) + "-");
        dueMatrixFaults(59, BLANKS.substring(3) + "777", WIDEST + BLANKS.substring(52) + "1");
        dueMatrixFaults(60, BLANKS.substring(1) + "-", "1 2/3" + BLANKS.substring(5), "1" + BLANKS.substring(2) + "/");
        Play x = Play.withText(BLANKS.substring(51) + WIDEST);
        x.due("setMatrix()", 16);
        for (int i = 0; i < 16; i++) {
            x.due("entry(" + i / 4 + ", " + i % 4 + ")", i - 99);
        }
    }

    private static void faultIsOfTheTextAlone() {
        sentence(4, "Returns the fault of the text.");
        Play x = Play.withText("11111/22222");
        x.due("fault(false)", NONE);
        x.ask("deal()");
        x.due("fault(false)", NONE);
        x.ask("claim(9, 6)");
        x.due("fault(false)", NONE);
        x.ask("doubt()");
        x.due("fault(false)", 4);
        x.ask("undo()");
        x.due("fault(false)", NONE);
        x.due("fault(true)", 2);
    }

    // ---- promises 7 and 12

    private static void dealing() {
        sentence(7, "Returns the number of dice; STATE if the game is over, dice are dealt already, "
                + "or the text has a fault as dice.");
        Play x = new Play();
        x.due("deal()", STATE);
        x.write("1111/22222");
        x.due("deal()", STATE);
        x.write("11111/22222/");
        x.due("deal()", STATE);
        x.write("11111/22227");
        x.due("deal()", STATE);
        x.due("count(12)", 0);
        x.write("11111/22222");
        x.due("deal()", 10);
        x.due("deal()", STATE);
        x.ask("claim(1, 1)");
        x.due("deal()", STATE);
        x.ask("undo()");
        x.due("deal()", STATE);
        x.due("undo()", 0);
        x.due("deal()", 10);
        Play over = Play.withDice(true, 0, 3);
        over.write("123");
        over.due("fault(false)", NONE);
        over.due("deal()", STATE);
        over.ask("undo()");
        over.due("deal()", STATE);
        Play rolled = new Play();
        rolled.ask("roll(1)");
        rolled.write("11111/22222");
        rolled.due("deal()", STATE);
        rolled.ask("undo()");
        rolled.due("deal()", 10);
        rolled.due("die(1, 4)", 2);
    }

    private static void deals() {
        sentence(7, "Deals the dice of the text, which stays.");
        dueDeal("1/6", 2, 1);
        dueDeal("61234/1", 6, 1);
        dueDeal("12345/65432/11111/22222/33456", 25, 3);
        dueDeal("/1/2345/", 5, 2);
        dueDeal("5////6", 2, 5);
    }

    private static void dueDeal(String cups, int dice, int first) {
        Play x = Play.dealt(true, cups);
        String[] each = cups.split("/", -1);
        for (int p = 0; p < each.length; p++) {
            for (int i = 0; i < each[p].length(); i++) {
                x.due("die(" + p + ", " + i + ")", each[p].charAt(i) - '0');
            }
            x.due("die(" + p + ", " + each[p].length() + ")", NONE);
        }
        String text = cups.replaceAll("/+", "/").replaceAll("^/|/$", "");
        x.due("count(13)", text.length());
        x.dueDigest(text);
        x.due("undo()", x.ask("count(12)") - 1);
        x.due("deal()", dice);
    }

    private static void settingMatrices() {
        sentence(12, "Returns the number of its entries");
        Play x = Play.withText("-99");
        x.due("setMatrix()", 1);
        x.due("entry(0, 0)", -99);
        x.write("99/-99/0/1");
        x.due("setMatrix()", 4);
        x.due("entry(1, 0)", -99);
        x.write("99-99 0 1");
        x.due("setMatrix()", 4);
        x.due("count(10)", 1);
        x.write(WIDEST);
        x.due("setMatrix()", 16);
        sentence(12, "the text stays");
        x.due("count(13)", 51);
        x.due("setMatrix()", 16);
        sentence(12, "Makes the matrix of the text the matrix");
        Play over = Play.withDice(true, 1, 0);
        over.write("1");
        over.due("setMatrix()", 1);
        Play amid = Play.dealt(true, "11111/22222");
        amid.ask("claim(1, 1)");
        amid.write("1 2/3 4");
        amid.due("setMatrix()", 4);
        amid.due("count(4)", 1);
        amid.due("count(3)", 1);
        amid.due("doubt()", 1);
        amid.due("entry(1, 1)", 4);
    }

    private static void refusedMatrices() {
        sentence(12, "STATE if the text has a fault as a matrix");
        Play x = Play.withMatrix("1 2/3 4");
        for (String text : new String[] {"", " ", "-", "9 9/9", "9 9 9/9 9-", "9/9/9/9/", "999", "8 8 8 8 8", "9 9/9 9x"}) {
            x.write(text);
            x.due("setMatrix()", STATE);
        }
        x.due("count(10)", 2);
        x.due("count(11)", 2);
        x.due("entry(0, 0)", 1);
        x.due("entry(1, 1)", 4);
        x.due("value(false)", 3);
        x.due("count(12)", 1);
        x.due("undo()", 0);
        x.due("entry(0, 0)", 0);
        x.due("value(false)", 0);
    }
}
