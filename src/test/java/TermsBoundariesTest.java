/** The other sentences of the Terms: missing cells, lanes, values, picked rows, texts of tables, limits, codes. */
public final class TermsBoundariesTest {
    private static final Checks checks = new Checks();
    private static final int BOOLEAN = 0;
    private static final int INT = 4;
    private static final int LONG = 5;
    private static final int DOUBLE = 7;
    private static final int TEXT = 8;

    public static void main(String[] args) {
        emptyAndNotInQuotesIsMissing();
        booleanIfAllAreTrueOrFalse();
        intOf1To10DigitsInItsBounds();
        longOfUpTo19Digits();
        doubleWithADotAndDigitsBehind();
        doubleOfAtMost15Digits();
        minusOrNothing();
        theFirstThatAllFit();
        aColumnWithoutCellsIsText();
        aCellInQuotesMakesItsColumnText();
        valuesOfBooleans();
        valuesOfIntAndLong();
        valuesOfDouble();
        minusZero();
        valuesOfMissingCells();
        valuesOfWords();
        asManyWordsAsRows();
        pickedRowsAreGuessedAnew();
        aCellIsInQuotesJustIfItWas();
        namesInQuotesIfTheyMustBe();
        whatIsWrittenIsReadAgain();
        numberedFrom1();
        atMost40TablesForLife();
        checks.finish();
    }

    /** One column with these cells, one a line. */
    private static Run column(String... cells) {
        Run x = new Run();
        checks.due("read of " + String.join("|", cells), x.read("n\n" + String.join("\n", cells) + "\n"), 1);
        return x;
    }

    private static void lane(int want, String... cells) {
        checks.due("lane of " + String.join("|", cells), column(cells).lane(1, 0), want);
    }

    private static void value(long want, int row, String... cells) {
        checks.due("value " + row + " of " + String.join("|", cells), column(cells).value(1, 0, row), want);
    }

    private static void doubleValue(String cell, double want) {
        value(Double.doubleToLongBits(want), 0, cell, "0.5");
    }

    /** "A cell that is empty and not in " is MISSING." */
    private static void emptyAndNotInQuotesIsMissing() {
        Run x = column("", "\"\"", " ", "\" \"", "0", "");
        boolean[] missing = {true, false, false, false, false, true};
        for (int row = 0; row < missing.length; row++) {
            checks.due("missing: row " + row, x.missing(1, 0, row), missing[row]);
        }
        checks.due("missing: behind the last row", x.missing(1, 0, missing.length), false);
        checks.due("missing: means nothing", x.length(1, 0, 0), 0);
        checks.due("empty in \": means nothing too", x.length(1, 0, 1), 0);
        checks.due("missing: has no byte", x.at(1, 0, 0, 0), -1);
        checks.due("missing: has no number", x.value(1, 0, 0), -1);
        checks.due("empty in \": is the first word", x.value(1, 0, 1), 0);
    }

    /** "boolean if all that are not missing are true or false" */
    private static void booleanIfAllAreTrueOrFalse() {
        lane(BOOLEAN, "true");
        lane(BOOLEAN, "false");
        lane(BOOLEAN, "", "true", "", "false", "");
        for (String other : new String[] {"True", "FALSE", "tru", "truee", "fals", "falsee", " true", "true ", "0", "1",
                "\"true\"", "\"\"", "truefalse", "t", "-true"}) {
            lane(TEXT, "true", other);
            lane(TEXT, other, "false");
        }
    }

    /** "- or nothing and 1 to 10 digits for int in its bounds" */
    private static void intOf1To10DigitsInItsBounds() {
        lane(TEXT, "-");
        lane(INT, "0");
        lane(INT, "9");
        lane(INT, "-9");
        lane(INT, "2147483647");
        lane(LONG, "2147483648");
        lane(INT, "-2147483648");
        lane(LONG, "-2147483649");
        lane(LONG, "9999999999");
        lane(LONG, "4294967296");
        lane(LONG, "4294967297");
        lane(INT, "0000000000");
        lane(INT, "-0000000001");
        lane(LONG, "00000000000");
        lane(LONG, "-00000000001");
    }

    /** "19 for long" */
    private static void longOfUpTo19Digits() {
        lane(LONG, "9223372036854775807");
        lane(TEXT, "9223372036854775808");
        lane(LONG, "-9223372036854775808");
        lane(TEXT, "-9223372036854775809");
        lane(TEXT, "9999999999999999999");
        lane(TEXT, "-9999999999999999999");
        lane(LONG, "0000000000000000001");
        lane(LONG, "-0000000000000000001");
        lane(TEXT, "00000000000000000001");
        lane(TEXT, "-00000000000000000001");
        lane(TEXT, "18446744073709551616");
        lane(TEXT, "18446744073709551617");
        lane(TEXT, "1".repeat(40));
        lane(TEXT, "0".repeat(40));
    }

    /** "double also with . and 1 or more digits behind" */
    private static void doubleWithADotAndDigitsBehind() {
        lane(TEXT, "1.");
        lane(TEXT, "-1.");
        lane(DOUBLE, "1.0");
        lane(DOUBLE, "-1.0");
        lane(DOUBLE, "1.23");
        lane(TEXT, ".");
        lane(TEXT, "-.");
        lane(TEXT, ".5");
        lane(TEXT, "-.5");
        lane(TEXT, "1..5");
        lane(TEXT, "1.5.");
        lane(TEXT, "1.5.5");
        lane(TEXT, "1.-5");
        lane(TEXT, "1.5e1");
        lane(TEXT, "1.5 ");
        lane(TEXT, "NaN");
        lane(TEXT, "Infinity");
    }

    /** "at most 15 digits in all" */
    private static void doubleOfAtMost15Digits() {
        lane(DOUBLE, "12345678901234.5");
        lane(DOUBLE, "-12345678901234.5");
        lane(TEXT, "123456789012345.6");
        lane(DOUBLE, "0.12345678901234");
        lane(TEXT, "0.123456789012345");
        lane(DOUBLE, "00000000000000.0");
        lane(TEXT, "000000000000000.0");
        lane(DOUBLE, "123456789012345", "0.5");
        lane(DOUBLE, "-123456789012345", "0.5");
        lane(TEXT, "1234567890123456", "0.5");
        lane(TEXT, "0.5", "0000000000000001");
        lane(TEXT, "1." + "0".repeat(38));
    }

    /** "- or nothing" */
    private static void minusOrNothing() {
        for (String number : new String[] {"7", "12345678901", "1.5"}) {
            for (String sign : new String[] {"+", "--", " ", "- ", "+-", "~"}) {
                lane(TEXT, sign + number);
            }
            lane(TEXT, number + "-");
            lane(TEXT, number + " ");
            lane(TEXT, number + "x");
            lane(TEXT, number + "/");
            lane(TEXT, number + ":");
        }
    }

    /** "the first that all fit; else TEXT" */
    private static void theFirstThatAllFit() {
        lane(INT, "1", "", "-2");
        lane(LONG, "1", "2147483648");
        lane(LONG, "00000000001", "1");
        lane(DOUBLE, "1", "2.0");
        lane(DOUBLE, "2147483648", "2.0", "");
        lane(TEXT, "9223372036854775807", "2.0");
        lane(TEXT, "1", "true");
        lane(TEXT, "1.0", "false");
        lane(TEXT, "1", "x");
        lane(TEXT, "x", "1");
        lane(TEXT, "1", "2", "9223372036854775808");
        Run x = new Run();
        x.read("a,b,c,d,e\ntrue,1,2147483648,1.5,x\n");
        int[] lanes = {BOOLEAN, INT, LONG, DOUBLE, TEXT};
        for (int c = 0; c < lanes.length; c++) {
            checks.due("each column has its lane: " + c, x.lane(1, c), lanes[c]);
        }
    }

    /** "A column without cells that are not missing is text." */
    private static void aColumnWithoutCellsIsText() {
        lane(TEXT, "");
        lane(TEXT, "", "", "");
        lane(INT, "", "", "3");
        Run x = new Run();
        x.read("a,b\n");
        checks.due("no rows: lane", x.lane(1, 0), TEXT);
        checks.due("no rows: the other lane", x.lane(1, 1), TEXT);
        x.read("a,b\n,true\n,\n");
        checks.due("all missing: lane", x.lane(2, 0), TEXT);
        checks.due("all missing: value", x.value(2, 0, 1), -1);
        checks.due("one is not: lane", x.lane(2, 1), BOOLEAN);
        checks.due("one is not: value", x.value(2, 1, 1), 0);
    }

    /** "a cell in " makes its column text" */
    private static void aCellInQuotesMakesItsColumnText() {
        for (String cell : new String[] {"true", "1", "2147483648", "1.5"}) {
            String quoted = "\"" + cell + "\"";
            lane(TEXT, quoted);
            lane(TEXT, cell, quoted);
            lane(TEXT, quoted, cell);
            lane(TEXT, cell, "\"\"");
            value(0, 0, quoted, cell);
            value(0, 1, quoted, cell);
        }
        Run x = new Run();
        x.read("\"a\",b\n1,\"2\"\n");
        checks.due("\" of a name or of another column: lane", x.lane(1, 0), INT);
    }

    /** "of booleans 0 and 1" */
    private static void valuesOfBooleans() {
        value(1, 0, "true", "false");
        value(0, 1, "true", "false");
    }

    /** "of int and long the number" */
    private static void valuesOfIntAndLong() {
        value(0, 0, "-0");
        value(Integer.MAX_VALUE, 0, "2147483647");
        value(Integer.MIN_VALUE, 0, "-2147483648");
        value(Integer.MAX_VALUE + 1L, 0, "2147483648");
        value(Integer.MIN_VALUE - 1L, 0, "-2147483649");
        value(Long.MAX_VALUE, 0, "9223372036854775807");
        value(Long.MIN_VALUE, 0, "-9223372036854775808");
        value(-7, 0, "-0000000007");
        value(-7, 0, "-0000000000000000007");
        value(7, 0, "7", "2147483648");
    }

    /** "of double its 64 bits" */
    private static void valuesOfDouble() {
        doubleValue("0.1", 0.1);
        doubleValue("-0.1", -0.1);
        doubleValue("0.00000000000001", 0.00000000000001);
        doubleValue("999999999999999", 999999999999999.0);
        doubleValue("-999999999999999", -999999999999999.0);
        doubleValue("99999999999999.9", 99999999999999.9);
        doubleValue("0.99999999999999", 0.99999999999999);
        doubleValue("00000000000007", 7.0);
        doubleValue("0.0", 0.0);
        doubleValue("0", 0.0);
        doubleValue("1", 1.0);
    }

    /** "(-0.0 is minus zero.)" */
    private static void minusZero() {
        value(Long.MIN_VALUE, 0, "-0.0");
        value(Long.MIN_VALUE, 0, "-00.000");
        value(0, 0, "0.0");
        value(Long.MIN_VALUE, 0, "-0", "0.5");
        value(0, 0, "-0", "5");
    }

    /** "0 for missing ones", and of text "-1 for missing" */
    private static void valuesOfMissingCells() {
        value(0, 0, "", "true");
        value(0, 0, "", "5");
        value(0, 0, "", "2147483648");
        value(0, 0, "", "1.5");
        value(-1, 0, "", "x");
        value(-1, 0, "");
    }

    /** "of text the words' numbers: unlike words of that column by bytes, rising, from 0" */
    private static void valuesOfWords() {
        String[] cells = {"b", "", "ab", "\"b\"", "a", "\"\"", "B", "~", " ", "\" \"", "a ", "\"!\"", "10", "9"};
        long[] numbers = {9, -1, 8, 9, 6, 0, 5, 10, 1, 1, 7, 2, 3, 4};
        Run x = column(cells);
        for (int row = 0; row < cells.length; row++) {
            checks.due("words: <" + cells[row] + ">", x.value(1, 0, row), numbers[row]);
        }
        String longest = "x".repeat(39);
        value(1, 0, longest + "y", longest + "z", longest);
        value(2, 0, longest + "y", longest + "x", longest);
        x = new Run();
        x.read("a,b\nz,y\ny,z\n");
        checks.due("words: of the first column alone", x.value(1, 0, 0), 1);
        checks.due("words: of the second column alone", x.value(1, 1, 0), 0);
        x.read("a,b,c\np,p,q\nq,q,q\nr,q,r\n");
        long[][] ofColumns = {{0, 1, 2}, {0, 1, 1}, {0, 0, 1}};
        for (int c = 0; c < ofColumns.length; c++) {
            for (int row = 0; row < 3; row++) {
                checks.due("words: column " + c + ", row " + row, x.value(2, c, row), ofColumns[c][row]);
            }
        }
    }

    private static void asManyWordsAsRows() {
        String[] falling = new String[499];
        String[] rising = new String[499];
        String[] alike = new String[499];
        for (int row = 0; row < 499; row++) {
            falling[row] = "w" + (999 - row);
            rising[row] = "w" + (100 + row);
            alike[row] = "w";
        }
        Run x = column(falling);
        Run y = column(rising);
        Run z = column(alike);
        for (int row : new int[] {0, 1, 249, 497, 498}) {
            checks.due("499 words falling: row " + row, x.value(1, 0, row), 498 - row);
            checks.due("499 words rising: row " + row, y.value(1, 0, row), row);
            checks.due("499 words alike: row " + row, z.value(1, 0, row), 0);
        }
    }

    /** "PICKED rows make a new table; lanes are guessed anew." */
    private static void pickedRowsAreGuessedAnew() {
        Run x = column("true", "5", "2147483648", "1.5", "x", "", "\"5\"", "5");
        checks.due("picked: lane of the old table", x.lane(1, 0), TEXT);
        int[] lanes = {BOOLEAN, INT, LONG, DOUBLE, TEXT, TEXT, TEXT, INT};
        for (int row = 0; row < lanes.length; row++) {
            x.row(row);
            checks.due("picked: row " + row, x.pick(1), row + 2);
            checks.due("picked: lane of row " + row, x.lane(row + 2, 0), lanes[row]);
        }
        checks.due("picked: value of a word", x.value(6, 0, 0), 0);
        checks.due("picked: value of the old table", x.value(1, 0, 4), 4);
        checks.due("picked: a cell stays missing", x.missing(7, 0, 0), true);
        checks.due("picked: a cell stays in \"", x.text(8), "n\n\"5\"\n");
        checks.due("picked: lane of the old table", x.lane(1, 0), TEXT);
    }

    private static void written(String want, String text) {
        Run x = new Run();
        checks.due("text: read of <" + text + ">", x.read(text), 1);
        checks.due("text: of <" + text + ">", x.text(1), want);
    }

    /** "a cell is in " just if it was, or begins or ends with a blank" */
    private static void aCellIsInQuotesJustIfItWas() {
        written("n\nx\n\"x\"\n\n\"\"\n", "n\nx\n\"x\"\n\n\"\"\n");
        written("n\n\" x\"\n\"x \"\n\" \"\n\"  \"\nx y\n", "n\n x\nx \n \n  \nx y\n");
        written("n\n\"\"\"\"\n\",\"\n\"x\"\"y\"\n", "n\n\"\"\"\"\n\",\"\n\"x\"\"y\"\n");
        written("n,m\n\" 1\",1\n", "n,m\n 1,1\n");
        written("a,b,c\n,\" x \",\n", "a,b,c\n, x ,\n");
    }

    /** "Names are written in " if they have " or , or begin or end with a blank." */
    private static void namesInQuotesIfTheyMustBe() {
        written("a,b\n", "\"a\",\"b\"\n");
        written("a b\n", "\"a b\"\n");
        written("\"\"\"\",\"x\"\"\",\"\"\"x\",\"x\"\"y\"\n", "\"\"\"\",\"x\"\"\",\"\"\"x\",\"x\"\"y\"\n");
        written("\",\",\"x,\",\",x\",\"x,y\"\n", "\",\",\"x,\",\",x\",\"x,y\"\n");
        written("\" \",\" x\",\"x \"\n", " , x,x \n");
    }

    private static void whatIsWrittenIsReadAgain() {
        Run x = new Run();
        String text = "\"q\"\"\", s,t\n\"\",\" \",7\n,x y,-0\n\"a,b\",\"\"\"\",\n";
        x.read(text);
        String first = x.text(1);
        checks.due("text: as it was read, but for a name's \"", first, text.replace(" s,", "\" s\","));
        checks.due("text: read again", x.read(first), 2);
        checks.due("text: the same again", x.text(2), first);
    }

    /** "Tables are numbered from 1" */
    private static void numberedFrom1() {
        Run x = new Run();
        checks.due("numbered: none yet", x.rows(1), -14);
        checks.due("numbered: the first", x.read("a\n"), 1);
        checks.due("numbered: not from 0", x.rows(0), -14);
        checks.due("numbered: a picked one goes on", x.pick(1), 2);
        checks.due("numbered: a fault takes none", x.read("a"), -20);
        checks.due("numbered: a read one goes on", x.read("a\n"), 3);
        checks.due("numbered: not beyond", x.rows(4), -14);
    }

    /** "at most 40 for life" */
    private static void atMost40TablesForLife() {
        Run x = new Run();
        for (int t = 1; t <= 40; t++) {
            checks.due("table " + t, t % 2 == 1 ? x.read("a\n" + t + "\n") : x.pick(t - 1), t);
        }
        checks.due("table 41 by pick", x.pick(1), -12);
        checks.due("table 41 by read", x.read("a\n41\n"), -12);
        checks.due("table 41 again", x.read("b\n"), -12);
        checks.due("rows(41)", x.rows(41), -14);
        checks.due("write(41)", x.write(41), -14);
        checks.due("pick(41)", x.pick(41), -14);
        checks.due("rows(40)", x.rows(40), 0);
        checks.due("value(39, 0, 0)", x.value(39, 0, 0), 39);
        checks.due("value(1, 0, 0)", x.value(1, 0, 0), 1);
        checks.due("named(40)", x.named(40, "a"), 0);
    }
}
