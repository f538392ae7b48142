/** The sentences of the Terms on TABLE TEXT and its FAULT, each at its boundary and just beyond it. */
public final class TableTextBoundariesTest {
    private static final Checks checks = new Checks();
    private static final char FIRST_CODE = 32;
    private static final char LAST_CODE = 126;

    public static void main(String[] args) {
        eachLineIsEndedBy10TheLastOneToo();
        codesOfACell();
        codesOfACellInQuotes();
        cellsWithCommasBetween();
        twoQuotesForOne();
        oneTo16Names();
        namesOf1To20Bytes();
        noTwoNamesAlike();
        asManyCellsAsNames();
        atMost500Lines();
        atMost40BytesACell();
        theTextsLengthIfItEndsTooEarly();
        theFirstOfTwoFaults();
        tooLongAtItsFirstByte();
        aNameTwiceOrEmptyAtItsFirstByte();
        tooFewCellsAtIts10();
        readToItsEndThenLookedAt();
        oneTooManyBeforeItIsRead();
        linesCountWithTheFirst();
        checks.finish();
    }

    private static String shown(String text) {
        return "<" + (text.length() > 60 ? text.substring(0, 60) + ".." : text) + ">";
    }

    private static Run good(String sentence, String text) {
        Run x = new Run();
        checks.due(sentence + ": read of " + shown(text), x.read(text), 1);
        checks.due(sentence + ": place in " + shown(text), x.place(), -1);
        return x;
    }

    /** With the state after the refused read: no table, nothing in the tray, and the number still free. */
    private static void bad(String sentence, String text, int place) {
        Run x = new Run();
        checks.due(sentence + ": read of " + shown(text), x.read(text), -20);
        checks.due(sentence + ": place in " + shown(text), x.place(), place);
        checks.due(sentence + ": no table of " + shown(text), x.rows(1), -14);
        checks.due(sentence + ": nothing left of " + shown(text), x.end(1), -1);
        checks.due(sentence + ": a good text behind " + shown(text), x.read("z\n5\n"), 1);
        checks.due(sentence + ": its value", x.value(1, 0, 0), 5);
        checks.due(sentence + ": its place", x.place(), -1);
    }

    /** So many names of one byte, without the line's end. */
    private static String names(int count) {
        return "a,b,c,d,e,f,g,h,i,j,k,l,m,n,o,p,q,r".substring(0, 2 * count - 1);
    }

    /** "lines, each ended by 10 (the last one too)" */
    private static void eachLineIsEndedBy10TheLastOneToo() {
        String sentence = "each ended by 10";
        good(sentence, "a\n");
        bad(sentence, "a", 1);
        good(sentence, "a\n1\n");
        bad(sentence, "a\n1", 3);
        good(sentence, "a\n1\n\n");
        bad(sentence, "a\n1\n\n\"\"", 7);
        bad(sentence, "a\r\n", 1);
        bad(sentence, "", 0);
    }

    /** "with codes 10 and 32 .. 126", "a cell is bytes but " and , and 10" */
    private static void codesOfACell() {
        for (char code = 0; code <= 255; code++) {
            String sentence = "a cell with code " + (int) code;
            String text = "n\nx" + code + "y\n";
            if (code == '\n') {
                checks.due(sentence + " is two", good(sentence, text).rows(1), 2);
            } else if (code == ',') {
                bad(sentence, text, 4);
            } else if (code == '"' || code < FIRST_CODE || code > LAST_CODE) {
                bad(sentence, text, 3);
            } else {
                checks.due(sentence, good(sentence, text).meaning(1, 0, 0), "x" + code + "y");
            }
            if (code != '\n' && (code < FIRST_CODE || code > LAST_CODE)) {
                bad(sentence + " first", "n\n" + code + "\n", 2);
                bad(sentence + " in a name", "n" + code + "\n", 1);
                bad(sentence + " as a line", "n\n1\n" + code, 4);
            }
        }
    }

    /** "or " bytes (32 .. 126, "" for one ") "" */
    private static void codesOfACellInQuotes() {
        for (char code = 0; code <= 255; code++) {
            String sentence = "a cell in \" with code " + (int) code;
            String text = "n\n\"x" + code + "y\"\n";
            if (code == '"') {
                bad(sentence, text, 5);
            } else if (code < FIRST_CODE || code > LAST_CODE) {
                bad(sentence, text, 4);
            } else {
                checks.due(sentence, good(sentence, text).meaning(1, 0, 0), "x" + code + "y");
            }
            if (code != '"' && code != ',' && code != '\n') {
                bad(sentence + " behind it", "n\n\"x\"" + code + "\n", 5);
            }
        }
    }

    /** "of each line cells with commas between" */
    private static void cellsWithCommasBetween() {
        String sentence = "commas between";
        Run x = good(sentence, "a,b,c\n,,\n\"\",\"\",\"\"\n1,,\"3\"\n");
        checks.due(sentence + ": columns", x.columns(1), 3);
        checks.due(sentence + ": rows", x.rows(1), 3);
        checks.due(sentence + ": all empty", x.missing(1, 0, 0) && x.missing(1, 1, 0) && x.missing(1, 2, 0), true);
        checks.due(sentence + ": one empty", x.missing(1, 1, 2), true);
        checks.due(sentence + ": the last", x.meaning(1, 2, 2), "3");
        bad(sentence, "a,b\n,1,\n", 7);
        bad(sentence, "a,b\n1;2\n", 7);
    }

    /** """ for one "" */
    private static void twoQuotesForOne() {
        String sentence = "\"\" for one \"";
        checks.due(sentence, good(sentence, "n\n\"\"\n").meaning(1, 0, 0), "");
        bad(sentence, "n\n\"\n", 3);
        bad(sentence, "n\n\"\"\"\n", 5);
        checks.due(sentence, good(sentence, "n\n\"\"\"\"\n").meaning(1, 0, 0), "\"");
        bad(sentence, "n\n\"\"\"\"\"\n", 7);
        checks.due(sentence, good(sentence, "n\n\"\"\"\"\"\"\n").meaning(1, 0, 0), "\"\"");
        checks.due(sentence, good(sentence, "n\n\"\"\"x\"\"\"\n").meaning(1, 0, 0), "\"x\"");
        bad(sentence, "n\nx\"\"y\n", 3);
        bad(sentence, "n\n\"x\n\"\n", 4);
    }

    /** "The first line has the names (1 .. 16 of them" */
    private static void oneTo16Names() {
        String sentence = "1 .. 16 names";
        bad(sentence, "\n", 0);
        for (int count : new int[] {1, 2, 15, 16}) {
            checks.due(sentence, good(sentence, names(count) + "\n").columns(1), count);
        }
        String widest = names(16).replaceAll("([a-p])", "x".repeat(19) + "$1") + "\n";
        checks.due(sentence + " of 20 bytes", good(sentence, widest).columns(1), 16);
        bad(sentence, names(17) + "\n", 32);
        bad(sentence, names(18) + "\n", 32);
        bad(sentence, names(16) + ",\n", 32);
    }

    /** "each 1 .. 20 bytes" */
    private static void namesOf1To20Bytes() {
        String sentence = "names of 1 .. 20 bytes";
        bad(sentence, "\n", 0);
        bad(sentence, "\"\"\n", 0);
        for (int size : new int[] {1, 2, 19, 20}) {
            checks.due(sentence, good(sentence, "x".repeat(size) + "\n").named(1, "x".repeat(size)), 0);
            checks.due(sentence, good(sentence, "\"" + "x".repeat(size) + "\"\n").named(1, "x".repeat(size)), 0);
        }
        bad(sentence, "x".repeat(21) + "\n", 0);
        bad(sentence, "a," + "x".repeat(21) + ",b\n", 2);
        bad(sentence, "\"" + "x".repeat(21) + "\"\n", 0);
        checks.due(sentence, good(sentence, "\"" + "\"\"".repeat(20) + "\"\n").named(1, "\"".repeat(20)), 0);
        bad(sentence, "\"" + "\"\"".repeat(21) + "\"\n", 0);
    }

    /** "no two alike" */
    private static void noTwoNamesAlike() {
        String sentence = "no two alike";
        bad(sentence, "a,a\n", 2);
        bad(sentence, "a,\"a\"\n", 2);
        bad(sentence, "\"a\",a\n", 4);
        bad(sentence, "\"\"\"\",b,\"\"\"\"\n", 7);
        bad(sentence, names(15) + ",a\n", 30);
        bad(sentence, names(15) + ",o\n", 30);
        good(sentence, "a,A,aa,b, a,a \n");
        good(sentence, "x".repeat(20) + "," + "x".repeat(19) + "," + "x".repeat(19) + "y\n");
        good(sentence, "a,b\na,a\n");
    }

    /** "each other one as many cells" */
    private static void asManyCellsAsNames() {
        String sentence = "as many cells";
        for (int count : new int[] {1, 2, 15, 16}) {
            String text = names(count) + "\n" + names(count) + "\n";
            checks.due(sentence, good(sentence, text + names(count) + "\n").rows(1), 2);
            bad(sentence, text + names(count + 1) + "\n", text.length() + 2 * count);
            bad(sentence, text + names(count) + ",\n", text.length() + 2 * count);
            if (count > 1) {
                bad(sentence, text + names(count - 1) + "\n", text.length() + 2 * count - 3);
            }
        }
    }

    /** "at most 500 lines" */
    private static void atMost500Lines() {
        String sentence = "at most 500 lines";
        checks.due(sentence, good(sentence, "a\n" + "1\n".repeat(498)).rows(1), 498);
        checks.due(sentence, good(sentence, "a\n" + "1\n".repeat(499)).rows(1), 499);
        bad(sentence, "a\n" + "1\n".repeat(500), 1000);
        bad(sentence, "a\n" + "1\n".repeat(501), 1000);
        checks.due(sentence, good(sentence, "a\n" + "\n".repeat(499)).rows(1), 499);
        bad(sentence, "a\n" + "\n".repeat(500), 501);
    }

    /** "40 bytes a cell (as it means)" */
    private static void atMost40BytesACell() {
        String sentence = "40 bytes a cell";
        for (int size : new int[] {39, 40}) {
            checks.due(sentence, good(sentence, "a\n" + "x".repeat(size) + "\n").length(1, 0, 0), size);
            checks.due(sentence, good(sentence, "a\n\"" + "x".repeat(size) + "\"\n").length(1, 0, 0), size);
            checks.due(sentence, good(sentence, "a\n\"" + "\"\"".repeat(size) + "\"\n").length(1, 0, 0), size);
        }
        bad(sentence, "a\n" + "x".repeat(41) + "\n", 2);
        bad(sentence, "a\n\"" + "x".repeat(41) + "\"\n", 2);
        bad(sentence, "a\n\"" + "\"\"".repeat(41) + "\"\n", 2);
        for (int size : new int[] {63, 64, 65, 104, 128, 256}) {
            bad(sentence, "a\n" + "x".repeat(size) + "\n", 2);
        }
    }

    /** "FAULT at .. (the text's length if it ends too early)" */
    private static void theTextsLengthIfItEndsTooEarly() {
        String sentence = "ends too early";
        String text = "a,\"b\"\"\"\n1,\"x\"\"y\"\n,\n\"\",z\n";
        for (int size = 0; size <= text.length(); size++) {
            String begun = text.substring(0, size);
            if (begun.endsWith("\n")) {
                good(sentence, begun);
            } else {
                bad(sentence, begun, size);
            }
        }
    }

    /** "FAULT at the first byte that does not belong there" */
    private static void theFirstOfTwoFaults() {
        String sentence = "the first byte";
        bad(sentence, "a,a\n\u0000\n", 2);
        bad(sentence, "a\u0000,\u0000\n", 1);
        bad(sentence, "a,b\n1\n1,2,3\n", 5);
        bad(sentence, "a\n\"1\"2\n\u007f\n", 5);
        bad(sentence, "a\n1,2\n" + "x".repeat(41) + "\n", 4);
        bad(sentence, "a\n1\n" + "x".repeat(41) + "\n1,2\n", 4);
    }

    /** "of a cell, name or line .. too long .. at its first byte" */
    private static void tooLongAtItsFirstByte() {
        String sentence = "too long";
        bad(sentence, "a,b\n1," + "x".repeat(41) + "\n", 6);
        bad(sentence, "a,b\n\"" + "x".repeat(41) + "\",1\n", 4);
        bad(sentence, "a,b," + "x".repeat(21) + "\n", 4);
        bad(sentence, "a,b,\"" + "x".repeat(21) + "\"\n", 4);
    }

    /** "and a name twice or empty, at its first byte" */
    private static void aNameTwiceOrEmptyAtItsFirstByte() {
        String sentence = "twice or empty";
        bad(sentence, "ab,cd,ab,ef\n", 6);
        bad(sentence, "ab,cd,\"cd\"\n", 6);
        bad(sentence, ",b\n", 0);
        bad(sentence, "a,,c\n", 2);
        bad(sentence, "a,\n", 2);
        bad(sentence, "a,\"\"\n", 2);
        good(sentence, " \n");
    }

    /** "but of a line with too few cells at its 10" */
    private static void tooFewCellsAtIts10() {
        String sentence = "too few cells";
        bad(sentence, "a,b\n\n", 4);
        bad(sentence, "a,b\n12\n", 6);
        bad(sentence, "a,b\n\"1,2\"\n", 9);
        bad(sentence, "a,b\n1,2\n3\n", 9);
        bad(sentence, "a,b,c\n1,\n", 8);
        bad(sentence, "a,b\n1", 5);
    }

    /** "A cell is read to its end, where , or 10 must follow, then it is looked at" */
    private static void readToItsEndThenLookedAt() {
        String sentence = "read to its end";
        bad(sentence, "a\n" + "x".repeat(41) + "\"\n", 43);
        bad(sentence, "a\n" + "x".repeat(60) + "\u0001\n", 62);
        bad(sentence, "a\n" + "x".repeat(41), 43);
        bad(sentence, "a\n\"" + "x".repeat(41) + "\"y\n", 45);
        bad(sentence, "a\n\"" + "x".repeat(41) + "\n", 44);
        bad(sentence, "x".repeat(21) + "\"\n", 21);
        bad(sentence, "x".repeat(21), 21);
        bad(sentence, "a,a", 3);
        bad(sentence, "a,a\"\n", 3);
        bad(sentence, "a,\"a\" \n", 5);
        bad(sentence, "\"\"", 2);
        bad(sentence, "\"\"x\n", 2);
        bad(sentence, "a,b\n" + "x".repeat(41) + "\n", 4);
        bad(sentence, "a,b\n1\u0002\n", 5);
    }

    /** "one too many before it is read" */
    private static void oneTooManyBeforeItIsRead() {
        String sentence = "one too many";
        bad(sentence, "a\n1,\"x\n", 4);
        bad(sentence, "a\n1,2\u0001\n", 4);
        bad(sentence, "a\n1,\u0001\n", 4);
        bad(sentence, "a\n1,", 4);
        bad(sentence, "a\n1," + "x".repeat(41) + "\n", 4);
        bad(sentence, names(16) + ",x\u0001\n", 32);
        bad(sentence, names(16) + ",\"", 32);
        bad(sentence, names(16) + ",a\n", 32);
        bad(sentence, names(16) + "," + "x".repeat(21) + "\"", 32);
        bad(sentence, "a,b\n" + "1,2\n".repeat(499) + "1\u0001\n", 2000);
        bad(sentence, "a,b\n" + "1,2\n".repeat(499) + "1\n", 2000);
        bad(sentence, "a,b\n" + "1,2\n".repeat(499) + "1,2", 2000);
    }

    /** "lines count with the first" */
    private static void linesCountWithTheFirst() {
        String sentence = "lines count with the first";
        String text = names(16) + "\n" + (",".repeat(15) + "\n").repeat(499);
        Run x = good(sentence, text);
        checks.due(sentence, x.rows(1), 499);
        checks.due(sentence, x.columns(1), 16);
        checks.due(sentence, x.missing(1, 15, 498), true);
        checks.due(sentence, x.missing(1, 0, 499), false);
        bad(sentence, text + ",".repeat(15) + "\n", text.length());
    }
}
