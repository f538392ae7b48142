/** Each promise of the document by its number: ordinary inputs, named edges and wrong inputs. */
public final class PromisesTest {
    private static final int[] EDGES = {Integer.MIN_VALUE, -1, 0, Integer.MAX_VALUE};
    private static final Checks checks = new Checks();

    public static void main(String[] args) {
        promise1NewObject();
        promise2Feed();
        promise3End();
        promise4Read();
        promise4ReadNoRoom();
        promise4ReadNoRoomForItsText();
        promise5PlaceOfWrongBytes();
        promise5PlaceOfTooMany();
        promise5PlaceOfLooks();
        promise5PlaceAfterOtherReads();
        promise6And7RowsAndColumns();
        promise8Named();
        promise9LaneOfKinds();
        promise9LaneOfMixtures();
        promise10ValueOfNumbers();
        promise10ValueOfWords();
        promise11Missing();
        promise12And13LengthAndAt();
        promise14Row();
        promise15Pick();
        promise15PickGuessesAnew();
        promise15PickRefused();
        promise15PickNoRoomForItsText();
        promise15TextsCountAsWritten();
        promise16And17WriteAndOut();
        promise16WriteNoRoom();
        checks.finish();
    }

    private static void promise1NewObject() {
        CommaTables x = new CommaTables();
        checks.due("1: place()", x.place(), -1);
        checks.due("1: out(0)", x.out(0), -1);
        checks.due("1: end(1)", x.end(1), -1);
        checks.due("1: end(0)", x.end(0), 0);
        for (int t : new int[] {Integer.MIN_VALUE, -1, 0, 1, 40, 41, Integer.MAX_VALUE}) {
            checks.due("1: rows(" + t + ")", x.rows(t), -14);
            checks.due("1: columns(" + t + ")", x.columns(t), -14);
            checks.due("1: named(" + t + ")", x.named(t), -14);
            checks.due("1: lane(" + t + ")", x.lane(t, 0), -14);
            checks.due("1: value(" + t + ")", x.value(t, 0, 0), 0);
            checks.due("1: missing(" + t + ")", x.missing(t, 0, 0), false);
            checks.due("1: length(" + t + ")", x.length(t, 0, 0), -14);
            checks.due("1: at(" + t + ")", x.at(t, 0, 0, 0), -1);
            checks.due("1: pick(" + t + ")", x.pick(t), -14);
            checks.due("1: write(" + t + ")", x.write(t), -14);
        }
    }

    private static void promise2Feed() {
        CommaTables x = new CommaTables();
        checks.due("2: first feed", x.feed(0x61620A31, 0x32333435, 0x36373839, 0x0A2D352C, 0x2E2F3A0A), 20);
        checks.due("2: second feed", x.feed(-1, 0, 0, 0, 0), 40);
        x.end(13);
        checks.due("2: highest byte first", x.read(), 1);
        checks.due("2: the name", Checks.named(x, 1, "ab"), 0);
        checks.due("2: the long", x.value(1, 0, 0), 123456789);
        x = new CommaTables();
        for (int i = 1; i <= 800; i++) {
            checks.due("2: feed " + i, x.feed(0, 0, 0, 0, 0), 20 * i);
        }
        checks.due("2: feed over 16000", x.feed(0, 0, 0, 0, 0), -1);
        checks.due("2: none of it is there", x.end(16001), -1);
        checks.due("2: end(15981)", x.end(15981), 15981);
        checks.due("2: feed to 16001", x.feed(0, 0, 0, 0, 0), -1);
        checks.due("2: end(15980)", x.end(15980), 15980);
        checks.due("2: feed to 16000", x.feed(0, 0, 0, 0, 0), 16000);
        x = new CommaTables();
        for (int i = 0; i < 3276; i++) {
            x.end(0);
            checks.due("2: feed " + i, x.feed(0, 0, 0, 0, 0), 20);
        }
        x.end(0);
        checks.due("2: feed over 65536 in all", x.feed(0, 0, 0, 0, 0), -1);
        checks.due("2: none of it is there", x.end(1), -1);
    }

    private static void promise3End() {
        CommaTables x = new CommaTables();
        x.feed(0x610A0000, 0, 0, 0, 0);
        for (int n : new int[] {Integer.MIN_VALUE, -1, 21, Integer.MAX_VALUE}) {
            checks.due("3: end(" + n + ")", x.end(n), -1);
        }
        checks.due("3: end(20)", x.end(20), 20);
        checks.due("3: end(2)", x.end(2), 2);
        checks.due("3: end(3) of 2", x.end(3), -1);
        checks.due("3: feed behind the end", x.feed(0x0A350A00, 0, 0, 0, 0), 22);
        checks.due("3: end(5)", x.end(5), 5);
        checks.due("3: read()", x.read(), 1);
        checks.due("3: rows(1)", x.rows(1), 2);
        checks.due("3: value(1, 0, 1)", x.value(1, 0, 1), 5);
    }

    private static void promise4Read() {
        CommaTables x = new CommaTables();
        checks.due("4: names alone", Checks.read(x, "a,b\n"), 1);
        checks.due("4: the tray is empty then", x.end(1), -1);
        checks.due("4: a table", Checks.read(x, "a\n1\n"), 2);
        checks.due("4: a fault", Checks.read(x, "a\n1"), -20);
        checks.due("4: the tray is empty after a fault", x.end(1), -1);
        checks.due("4: nothing", x.read(), -20);
        checks.due("4: a fault takes no number", Checks.read(x, "\" a\"\n~\n"), 3);
        checks.due("4: what was read before a fault stays", x.value(2, 0, 0), 1);
        StringBuilder widest = new StringBuilder();
        for (int c = 0; c < 16; c++) {
            widest.append(c == 0 ? "" : ",").append("name of twenty chars".substring(2)).append((char) ('a' + c)).append('z');
        }
        checks.due("4: 16 names of 20 bytes", Checks.read(x, widest + "\n"), 4);
        checks.due("4: columns(4)", x.columns(4), 16);
        checks.due("4: 40 bytes a cell", Checks.read(x, "a\n" + "x".repeat(40) + "\n\"" + "\"\"".repeat(40) + "\"\n"), 5);
        checks.due("4: length as it means", x.length(5, 0, 1), 40);
        checks.due("4: 500 lines", Checks.read(x, "a\n" + "\n".repeat(499)), 6);
        checks.due("4: rows(6)", x.rows(6), 499);
    }

    private static void promise4ReadNoRoom() {
        CommaTables x = new CommaTables();
        for (int t = 1; t <= 40; t++) {
            checks.due("4: table " + t, Checks.read(x, "a\n" + t + "\n"), t);
        }
        checks.due("4: a fault is told even without room", Checks.read(x, "a\n1"), -20);
        checks.due("4: its place", x.place(), 3);
        checks.due("4: table 41", Checks.read(x, "a\n41\n"), -12);
        checks.due("4: no fault there", x.place(), -1);
        checks.due("4: the tray is empty then", x.end(1), -1);
        checks.due("4: rows(41)", x.rows(41), -14);
        checks.due("4: value(40, 0, 0)", x.value(40, 0, 0), 40);
        checks.due("15: pick(1) without room", x.pick(1), -12);
        x.row(1);
        checks.due("15: a row that is not there comes first", x.pick(1), -2);
        checks.due("15: no such table comes first", x.pick(41), -14);
    }

    private static final String WIDE_NAMES = "a,b,c,d,e,f,g,h,i,j,k,l,m,n,o,p\n";
    private static final String WIDE_LINE = ("x".repeat(40) + ",").repeat(15) + "x".repeat(40) + "\n";

    /** An object whose three tables' texts have this many bytes together: two wide ones, and the rest. */
    private static CommaTables filled(int together) {
        CommaTables x = new CommaTables();
        Checks.read(x, WIDE_NAMES + WIDE_LINE);
        int left = together - 2 * WIDE_NAMES.length() - WIDE_LINE.length() - 3;
        pick(x, 1, left / WIDE_LINE.length());
        int cells = left % WIDE_LINE.length();
        String rest = "n\n" + ("y".repeat(40) + "\n").repeat(cells / 41) + "y".repeat(cells % 41) + "\n";
        checks.due("filled: read", Checks.read(x, rest), 3);
        int sum = 0;
        for (int t = 1; t <= 3; t++) {
            sum += sizeOfText(x, t);
        }
        checks.due("filled: bytes together", sum, together);
        return x;
    }

    /** Not by write(), which refuses more than 30000 bytes; for names of one byte, and cells without ". */
    private static int sizeOfText(CommaTables x, int t) {
        int size = x.columns(t) * (x.rows(t) + 1) + x.columns(t);
        for (int c = 0; c < x.columns(t); c++) {
            for (int row = 0; row < x.rows(t); row++) {
                size += x.length(t, c, row);
            }
        }
        return size;
    }

    private static int pick(CommaTables x, int t, int count) {
        for (int i = 0; i < count; i++) {
            x.row(0);
        }
        return x.pick(t);
    }

    private static void promise4ReadNoRoomForItsText() {
        checks.due("4: 65536 bytes together", Checks.read(filled(65536 - 6), "a\nxyz\n"), 4);
        CommaTables x = filled(65536 - 5);
        checks.due("4: 65537 bytes together", Checks.read(x, "a\nxyz\n"), -12);
        checks.due("4: no fault there", x.place(), -1);
        checks.due("4: the tray is empty then", x.end(1), -1);
        checks.due("4: rows(4)", x.rows(4), -14);
        checks.due("4: a fault is told even without room", Checks.read(x, "a\nxyz"), -20);
        checks.due("4: what was refused counts nothing", Checks.read(x, "a\n-7\n"), 4);
        checks.due("4: value(4, 0, 0)", x.value(4, 0, 0), -7);
        checks.due("4: the old table stays", x.at(1, 15, 0, 39), 'x');
        checks.due("4: not one byte is left", Checks.read(x, "a\n"), -12);
        x = filled(65536 - 4);
        checks.due("4: \" that are not written count nothing", Checks.read(x, "\"a\"\n12\n"), -12);
        checks.due("4: \" that are not written count nothing", Checks.read(x, "\"a\"\n1\n"), 4);
        checks.due("4: \" that are written count", Checks.read(filled(65536 - 5), "a\n 1\n"), -12);
        checks.due("4: \" that are written count", Checks.read(filled(65536 - 7), "a\n 1\n"), 4);
    }

    private static void fault(String text, int place) {
        CommaTables x = new CommaTables();
        String shown = text.length() > 60 ? text.substring(0, 60) + ".." : text;
        checks.due("5: read of <" + shown + ">", Checks.read(x, text), -20);
        checks.due("5: place in <" + shown + ">", x.place(), place);
        checks.due("5: no table of <" + shown + ">", x.rows(1), -14);
    }

    private static void promise5PlaceOfWrongBytes() {
        fault("", 0);
        fault("a", 1);
        fault("a,", 2);
        fault("a\n1", 3);
        fault("a\n\"", 3);
        fault("a\n\"x\"", 5);
        fault("a\n\"x\"\"", 6);
        fault("a\n\"x\"y\n", 5);
        fault("a\n\"x\" \n", 5);
        fault("a\nx\"y\"\n", 3);
        fault("a\n\"x\ny\"\n", 4);
        fault("a,b\n\"x\n", 6);
        fault("\"a\nb\"\n", 2);
        fault("a\n\u001f\n", 2);
        fault("a\n1\u007f\n", 3);
        fault("a\n1\u00e4\n", 3);
        fault("a\n\"1\u0000\"\n", 4);
        fault("a\n\"1\u007f\"\n", 4);
        fault("a\r\n", 1);
        fault("\ta\n", 0);
        fault("a\n1\n\u0000", 4);
    }

    private static void promise5PlaceOfTooMany() {
        fault("a\n1,2\n", 4);
        fault("a\n1,", 4);
        fault("a,b\n1,2,\"\n", 8);
        fault("a,b\n1\n", 5);
        fault("a,b\n\n", 4);
        fault("a,b\n1,2\n3\n", 9);
        fault("a,b,c,d,e,f,g,h,i,j,k,l,m,n,o,p,q\n", 32);
        fault("a,b,c,d,e,f,g,h,i,j,k,l,m,n,o,p,\u0001", 32);
        fault("a\n" + "\n".repeat(500), 501);
        fault("a\n" + "1\n".repeat(499) + "\"", 1000);
    }

    private static void promise5PlaceOfLooks() {
        fault("\n", 0);
        fault(",b\n", 0);
        fault("a,\n", 2);
        fault("\"\"\n", 0);
        fault("a,\"\",c\n", 2);
        fault("a,a\n", 2);
        fault("a,b,\"a\"\n", 4);
        fault("x".repeat(21) + "\n", 0);
        fault("a,\"" + "x".repeat(21) + "\"\n", 2);
        fault("x".repeat(21) + "\u0001\n", 21);
        fault("x".repeat(21), 21);
        fault("a\n" + "x".repeat(41) + "\n", 2);
        fault("a\n" + "x".repeat(200) + "\n", 2);
        fault("a\n\"" + "\"\"".repeat(41) + "\"\n", 2);
        fault("a\n" + "x".repeat(41) + "\"\n", 43);
        fault("a\n\"" + "x".repeat(41) + "\"y\n", 45);
        fault("a,b\n" + "x".repeat(41) + "\n", 4);
        fault("a,a\u0001\n", 3);
    }

    private static void promise5PlaceAfterOtherReads() {
        CommaTables x = new CommaTables();
        Checks.read(x, "a\n1");
        checks.due("5: a fault", x.place(), 3);
        checks.due("5: asked again", x.place(), 3);
        Checks.named(x, 1, "a");
        checks.due("5: named() is no read", x.place(), 3);
        Checks.read(x, "a\n1\n");
        checks.due("5: none after a good read", x.place(), -1);
        Checks.read(x, "a,");
        x.pick(1);
        checks.due("5: pick() is no read", x.place(), 2);
    }

    private static void promise6And7RowsAndColumns() {
        CommaTables x = new CommaTables();
        Checks.read(x, "a,b,c\n1,2,3\n,,\n");
        Checks.read(x, "a\n");
        Checks.read(x, "a\n\n\n\n");
        checks.due("6: rows(1)", x.rows(1), 2);
        checks.due("7: columns(1)", x.columns(1), 3);
        checks.due("6: rows(2)", x.rows(2), 0);
        checks.due("7: columns(2)", x.columns(2), 1);
        checks.due("6: rows(3)", x.rows(3), 3);
        for (int t : new int[] {Integer.MIN_VALUE, -1, 0, 4, 41, Integer.MAX_VALUE}) {
            checks.due("6: rows(" + t + ")", x.rows(t), -14);
            checks.due("7: columns(" + t + ")", x.columns(t), -14);
        }
    }

    private static void promise8Named() {
        CommaTables x = new CommaTables();
        Checks.read(x, "ab,\"q\"\"r\", s,abc\n");
        checks.due("8: ab", Checks.named(x, 1, "ab"), 0);
        checks.due("8: the tray is empty then", x.end(1), -1);
        checks.due("8: as it means", Checks.named(x, 1, "q\"r"), 1);
        checks.due("8: not as it was written", Checks.named(x, 1, "\"q\"\"r\""), -2);
        checks.due("8: with its blank", Checks.named(x, 1, " s"), 2);
        checks.due("8: without its blank", Checks.named(x, 1, "s"), -2);
        checks.due("8: abc", Checks.named(x, 1, "abc"), 3);
        checks.due("8: a", Checks.named(x, 1, "a"), -2);
        checks.due("8: abcd", Checks.named(x, 1, "abcd"), -2);
        checks.due("8: the tray is empty after none", x.end(1), -1);
        checks.due("8: nothing", x.named(1), -2);
        checks.due("8: bytes above 127", Checks.named(x, 1, "\u00e1b"), -2);
        checks.due("8: no table", Checks.named(x, 2, "ab"), -14);
        checks.due("8: the tray is empty after no table", x.end(1), -1);
    }

    private static void lane(String cells, int lane) {
        CommaTables x = new CommaTables();
        Checks.read(x, "n\n" + cells + "\n");
        checks.due("9: lane of <" + cells.replace('\n', '|') + ">", x.lane(1, 0), lane);
    }

    private static void promise9LaneOfKinds() {
        lane("true", 0);
        lane("false\ntrue\n", 0);
        lane("True", 8);
        lane("true ", 8);
        lane("\"true\"", 8);
        lane("truee", 8);
        lane("0", 4);
        lane("-0", 4);
        lane("2147483647\n-2147483648", 4);
        lane("0000000001", 4);
        lane("00000000001", 5);
        lane("2147483648", 5);
        lane("-2147483649", 5);
        lane("9999999999", 5);
        lane("9223372036854775807\n-9223372036854775808", 5);
        lane("9223372036854775808", 8);
        lane("-9223372036854775809", 8);
        lane("9999999999999999999", 8);
        lane("00000000000000000001", 8);
        lane("0.0", 7);
        lane("-12.50", 7);
        lane("123456789012.345", 7);
        lane("123456789012.3456", 8);
        lane("0.00000000000001", 7);
        lane("0.000000000000001", 8);
        for (String word : new String[] {"-", "+1", "1.", ".5", "-.5", "1..2", "1.2.3", "1e5", " 1", "1 ", "--1", "1-",
                "0x1", "1.-2", "-1.", ".", "\"1\"", "\"1.5\"", "\"\"", " "}) {
            lane(word, 8);
        }
    }

    private static void promise9LaneOfMixtures() {
        lane("", 8);
        lane("\n\n", 8);
        lane("\n7\n", 4);
        lane("\ntrue\n", 0);
        lane("true\n1", 8);
        lane("1\n2147483648", 5);
        lane("1\n1.5", 7);
        lane("123456789012345\n1.5", 7);
        lane("1234567890123456\n1.5", 8);
        lane("1\n\"2\"", 8);
        lane("true\n\"\"", 8);
        lane("1\nx", 8);
        CommaTables x = new CommaTables();
        Checks.read(x, "a,b\n1,true\n");
        checks.due("9: lane(1, 1)", x.lane(1, 1), 0);
        for (int c : new int[] {Integer.MIN_VALUE, -1, 2, 16, Integer.MAX_VALUE}) {
            checks.due("9: lane(1, " + c + ")", x.lane(1, c), -2);
            checks.due("9: lane(2, " + c + ")", x.lane(2, c), -14);
        }
        Checks.read(x, "a\n");
        checks.due("9: a column without cells", x.lane(2, 0), 8);
    }

    private static void value(String cells, int row, long want) {
        CommaTables x = new CommaTables();
        Checks.read(x, "n\n" + cells + "\n");
        checks.due("10: value " + row + " of <" + cells.replace('\n', '|') + ">", x.value(1, 0, row), want);
    }

    private static void promise10ValueOfNumbers() {
        value("true\nfalse\n", 0, 1);
        value("true\nfalse\n", 1, 0);
        value("true\nfalse\n", 2, 0);
        value("-0012\n\n", 0, -12);
        value("-0012\n\n", 1, 0);
        value("-2147483648", 0, Integer.MIN_VALUE);
        value("9223372036854775807", 0, Long.MAX_VALUE);
        value("-9223372036854775808", 0, Long.MIN_VALUE);
        String doubles = "1.5\n2\n-0.0\n-0\n0.1\n\n-3.25\n999999999999999\n0.00000000000001";
        value(doubles, 0, Double.doubleToLongBits(1.5));
        value(doubles, 1, Double.doubleToLongBits(2.0));
        value(doubles, 2, Long.MIN_VALUE);
        value(doubles, 3, Long.MIN_VALUE);
        value(doubles, 4, Double.doubleToLongBits(0.1));
        value(doubles, 5, 0);
        value(doubles, 6, Double.doubleToLongBits(-3.25));
        value(doubles, 7, Double.doubleToLongBits(999999999999999.0));
        value(doubles, 8, Double.doubleToLongBits(0.00000000000001));
        for (int edge : EDGES) {
            CommaTables x = new CommaTables();
            Checks.read(x, "n\n7\n");
            checks.due("10: value(1, 0, " + edge + ")", x.value(1, 0, edge), edge == 0 ? 7 : 0);
            checks.due("10: value(1, " + edge + ", 0)", x.value(1, edge, 0), edge == 0 ? 7 : 0);
        }
    }

    private static void promise10ValueOfWords() {
        String words = "b\n\nab\n\"b\"\na\n\"\"\nB\n~\n\" b\"";
        long[] numbers = {5, -1, 4, 5, 3, 0, 2, 6, 1};
        for (int row = 0; row < numbers.length; row++) {
            value(words, row, numbers[row]);
        }
        value("\n\n", 1, -1);
        value("10\n9\nx", 0, 0);
        value("10\n9\nx", 1, 1);
        CommaTables x = new CommaTables();
        Checks.read(x, "a,b\nz,y\ny,z\n");
        checks.due("10: each column has its own words", x.value(1, 1, 0), 0);
        checks.due("10: value(1, 0, 0)", x.value(1, 0, 0), 1);
    }

    private static void promise11Missing() {
        CommaTables x = new CommaTables();
        Checks.read(x, "a,b,c\n,\"\", \n1,,x\n");
        checks.due("11: empty", x.missing(1, 0, 0), true);
        checks.due("11: empty in \"", x.missing(1, 1, 0), false);
        checks.due("11: a blank", x.missing(1, 2, 0), false);
        checks.due("11: a number", x.missing(1, 0, 1), false);
        checks.due("11: empty in the middle", x.missing(1, 1, 1), true);
        for (int edge : new int[] {Integer.MIN_VALUE, -1, 3, Integer.MAX_VALUE}) {
            checks.due("11: no such column", x.missing(1, edge, 0), false);
            checks.due("11: no such row", x.missing(1, 0, edge), false);
            checks.due("11: no such table", x.missing(edge, 0, 0), false);
        }
    }

    private static void promise12And13LengthAndAt() {
        CommaTables x = new CommaTables();
        Checks.read(x, "a,b\n\"x\"\"y,\",007\n,\"\"\n");
        checks.due("12: length(1, 0, 0)", x.length(1, 0, 0), 4);
        String meaning = "x\"y,";
        for (int i = 0; i < meaning.length(); i++) {
            checks.due("13: at(1, 0, 0, " + i + ")", x.at(1, 0, 0, i), meaning.charAt(i));
        }
        checks.due("12: digits as they stand", x.length(1, 1, 0), 3);
        checks.due("13: at(1, 1, 0, 2)", x.at(1, 1, 0, 2), '7');
        checks.due("12: missing", x.length(1, 0, 1), 0);
        checks.due("12: empty in \"", x.length(1, 1, 1), 0);
        checks.due("13: at of missing", x.at(1, 0, 1, 0), -1);
        for (int i : new int[] {Integer.MIN_VALUE, -1, 4, Integer.MAX_VALUE}) {
            checks.due("13: at(1, 0, 0, " + i + ")", x.at(1, 0, 0, i), -1);
        }
        for (int edge : new int[] {Integer.MIN_VALUE, -1, 2, Integer.MAX_VALUE}) {
            checks.due("12: no such column", x.length(1, edge, 0), -2);
            checks.due("12: no such row", x.length(1, 0, edge), -2);
            checks.due("12: no such table", x.length(edge, edge, edge), -14);
            checks.due("13: no such column", x.at(1, edge, 0, 0), -1);
            checks.due("13: no such row", x.at(1, 0, edge, 0), -1);
            checks.due("13: no such table", x.at(edge, 0, 0, 0), -1);
        }
    }

    private static void promise14Row() {
        CommaTables x = new CommaTables();
        checks.due("14: row(-1)", x.row(-1), -1);
        checks.due("14: row(MIN)", x.row(Integer.MIN_VALUE), -1);
        Checks.read(x, "a\n5\n");
        for (int i = 1; i <= 499; i++) {
            checks.due("14: row " + i, x.row(0), i);
        }
        checks.due("14: row 500", x.row(0), -1);
        checks.due("14: row 500 below 0", x.row(-1), -1);
        checks.due("14: pick(1)", x.pick(1), 2);
        checks.due("14: rows(2)", x.rows(2), 499);
        checks.due("14: used up", x.row(Integer.MAX_VALUE), 1);
        checks.due("14: too far is told by pick()", x.pick(1), -2);
    }

    private static void promise15Pick() {
        CommaTables x = new CommaTables();
        Checks.read(x, "a,b\n1,x\n2,y\n3,z\n");
        x.row(2);
        x.row(0);
        x.row(2);
        checks.due("15: pick(1)", x.pick(1), 2);
        checks.due("15: rows(2)", x.rows(2), 3);
        checks.due("15: columns(2)", x.columns(2), 2);
        checks.due("15: names come along", Checks.named(x, 2, "b"), 1);
        checks.due("15: value(2, 0, 0)", x.value(2, 0, 0), 3);
        checks.due("15: value(2, 0, 1)", x.value(2, 0, 1), 1);
        checks.due("15: value(2, 0, 2)", x.value(2, 0, 2), 3);
        checks.due("15: words are numbered anew", x.value(2, 1, 0), 1);
        checks.due("15: the old table stays", x.value(1, 1, 2), 2);
        checks.due("15: no rows told", x.pick(1), 3);
        checks.due("15: rows(3)", x.rows(3), 0);
        checks.due("15: columns(3)", x.columns(3), 2);
        checks.due("15: lane(3, 0)", x.lane(3, 0), 8);
        x.row(1);
        checks.due("15: of a picked table", x.pick(2), 4);
        checks.due("15: value(4, 0, 0)", x.value(4, 0, 0), 1);
        x.write(2);
        checks.due("15: text of picked rows", Checks.written(x), "a,b\n3,z\n1,x\n3,z\n");
    }

    private static void promise15PickGuessesAnew() {
        CommaTables x = new CommaTables();
        Checks.read(x, "a\n5\ntrue\n1.5\n\n\"5\"\n");
        int[] lanes = {4, 0, 7, 8, 8};
        checks.due("15: lane(1, 0)", x.lane(1, 0), 8);
        for (int row = 0; row < lanes.length; row++) {
            x.row(row);
            checks.due("15: pick of row " + row, x.pick(1), row + 2);
            checks.due("15: lane of row " + row, x.lane(row + 2, 0), lanes[row]);
        }
        checks.due("15: missing stays missing", x.missing(5, 0, 0), true);
        checks.due("15: a quoted cell stays quoted", x.write(6), 6);
    }

    private static void promise15PickRefused() {
        CommaTables x = new CommaTables();
        Checks.read(x, "a\n5\n");
        x.row(0);
        checks.due("15: pick(0)", x.pick(0), -14);
        checks.due("15: used up by it", x.row(0), 1);
        x.row(1);
        x.row(0);
        checks.due("15: one of them is not there", x.pick(1), -2);
        checks.due("15: used up by it", x.row(0), 1);
        checks.due("15: no number was taken", x.pick(1), 2);
    }

    private static void promise15PickNoRoomForItsText() {
        int room = WIDE_NAMES.length() + WIDE_LINE.length();
        checks.due("15: 65536 bytes together", pick(filled(65536 - room), 1, 1), 4);
        CommaTables x = filled(65536 - room + 1);
        checks.due("15: 65537 bytes together", pick(x, 1, 1), -12);
        checks.due("15: rows(4)", x.rows(4), -14);
        checks.due("15: used up by it", x.row(0), 1);
        x.row(1);
        checks.due("15: a row that is not there comes first", x.pick(1), -2);
        checks.due("15: no such table comes first", x.pick(4), -14);
        checks.due("15: what was refused counts nothing", x.pick(1), 4);
        checks.due("15: rows(4)", x.rows(4), 0);
        checks.due("15: names count", pick(filled(65536 - WIDE_NAMES.length()), 1, 0), 4);
        checks.due("15: names count", pick(filled(65537 - WIDE_NAMES.length()), 1, 0), -12);
        x = new CommaTables();
        Checks.read(x, WIDE_NAMES + WIDE_LINE);
        checks.due("15: 98 rows of 656 bytes", pick(x, 1, 98), 2);
        checks.due("15: rows(2)", x.rows(2), 98);
        x = new CommaTables();
        Checks.read(x, WIDE_NAMES + WIDE_LINE);
        checks.due("15: 99 rows of 656 bytes", pick(x, 1, 99), -12);
    }

    /** Lines with 132 bytes of text, though their cells mean 63. */
    private static void promise15TextsCountAsWritten() {
        String names = "\"a,\",b\n";
        String line = "\"" + "\"\"".repeat(40) + "\",\"" + "\"\"".repeat(23) + "\"\n";
        for (int over = 0; over <= 1; over++) {
            CommaTables x = new CommaTables();
            String lastLine = "y".repeat(23 + over) + ",\n";
            checks.due("15: size", 2 * (names.length() + lastLine.length()) + 496 * line.length(), 65536 + 2 * over);
            Checks.read(x, names + line + lastLine);
            for (int i = 0; i < 495; i++) {
                x.row(0);
            }
            x.row(1);
            checks.due("15: " + (65536 + 2 * over) + " bytes as written", x.pick(1), over == 0 ? 2 : -12);
        }
    }

    private static void written(String text, String want) {
        CommaTables x = new CommaTables();
        Checks.read(x, text);
        checks.due("16: write of <" + text + ">", x.write(1), want.length());
        checks.due("17: text of <" + text + ">", Checks.written(x), want);
    }

    private static void promise16And17WriteAndOut() {
        written("a,b\n1,true\n,\n", "a,b\n1,true\n,\n");
        written("\"a\",\"b,\",\"c\"\"\", d,e \n,,,,\n", "a,\"b,\",\"c\"\"\",\" d\",\"e \"\n,,,,\n");
        written("a\n\"1\"\n\"\"\n x\nx \n \n\"x\"\"y,\"\nx y\n\n", "a\n\"1\"\n\"\"\n\" x\"\n\"x \"\n\" \"\n\"x\"\"y,\"\nx y\n\n");
        CommaTables x = new CommaTables();
        Checks.read(x, "a\n1\n");
        checks.due("16: write(1)", x.write(1), 4);
        for (int i : new int[] {Integer.MIN_VALUE, -1, 4, Integer.MAX_VALUE}) {
            checks.due("17: out(" + i + ")", x.out(i), -1);
        }
        checks.due("16: write(2)", x.write(2), -14);
        checks.due("17: the last text stays", Checks.written(x), "a\n1\n");
        Checks.read(x, "b\n");
        x.write(2);
        checks.due("17: a shorter text", Checks.written(x), "b\n");
    }

    /** Texts of 30000 and of 30001 bytes, which only picked rows can make that long in 512 calls. */
    private static void promise16WriteNoRoom() {
        String names = "n".repeat(20) + "," + "m".repeat(20) + "," + "o".repeat(20) + "\n";
        String line = ("x".repeat(40) + ",").repeat(2) + "y".repeat(17) + "\n";
        for (int over = 0; over <= 1; over++) {
            CommaTables x = new CommaTables();
            String lastLine = "p".repeat(34 + over) + ",,\n";
            checks.due("16: size", names.length() + 299 * line.length() + lastLine.length(), 30000 + over);
            Checks.read(x, names + line + lastLine);
            x.write(1);
            int before = names.length() + line.length() + lastLine.length();
            for (int i = 0; i < 299; i++) {
                x.row(0);
            }
            x.row(1);
            x.pick(1);
            checks.due("16: " + (30000 + over) + " bytes", x.write(2), over == 0 ? 30000 : -12);
            checks.due("17: out(29999)", x.out(29999), over == 0 ? 10 : -1);
            checks.due("17: what was written last", x.out(before - 1), over == 0 ? 'x' : 10);
        }
    }
}
