/** The sentences of the promises that name a boundary or a refused call, with the state after it. */
public final class PromiseBoundariesTest {
    private static final Checks checks = new Checks();
    private static final int MIN = Integer.MIN_VALUE;
    private static final int MAX = Integer.MAX_VALUE;

    public static void main(String[] args) {
        promise1NoTablesNothingInTheTray();
        promise2TheHighestFirst();
        promise2HowManyItHasThen();
        promise2MoreThan16000();
        promise2MoreThan65536InAll();
        promise3BelowZeroOrNotSoMany();
        promise3OnlyTheFirstBytesCount();
        promise4TheTrayIsEmptyThen();
        promise4AFaultComesBeforeNoRoom();
        promise5NoneOrNoReadYet();
        promise5OfTheLatestRead();
        promise6And7NoSuchTable();
        promise8ZeroTheFirst();
        promise8NoneOrNoSuchTable();
        promise8TheTrayIsEmptyThen();
        promise9NoSuchTableOrColumn();
        promise10ZeroIfThereIsNone();
        promise10To15RowsThatWrapAround();
        promise11FalseIfThereIsNone();
        promise12NoSuchTableColumnOrRow();
        promise13MinusOneIfThereIsNone();
        promise14Below0();
        promise14IfThereAre499();
        promise15UsedUp();
        promise15OneOfThemIsNotThere();
        promise15NoRows();
        promise15TheLastOf499Rows();
        promise16NoSuchTable();
        promise16MoreThan30000();
        promise17MinusOneIfThereIsNone();
        promise17WhatWasWrittenLast();
        checks.finish();
    }

    private static int[] outside(int first, int behind) {
        return new int[] {MIN, MIN + 1, first - 1, behind, behind + 1, MAX - 1, MAX};
    }

    /** "No tables, nothing in the tray." */
    private static void promise1NoTablesNothingInTheTray() {
        for (int t : new int[] {MIN, -1, 0, 1, 2, 40, 41, MAX}) {
            Run x = new Run();
            checks.due("1: rows(" + t + ")", x.rows(t), -14);
            checks.due("1: columns(" + t + ")", x.columns(t), -14);
            checks.due("1: lane(" + t + ", 0)", x.lane(t, 0), -14);
            checks.due("1: value(" + t + ", 0, 0)", x.value(t, 0, 0), 0);
            checks.due("1: missing(" + t + ", 0, 0)", x.missing(t, 0, 0), false);
            checks.due("1: length(" + t + ", 0, 0)", x.length(t, 0, 0), -14);
            checks.due("1: at(" + t + ", 0, 0, 0)", x.at(t, 0, 0, 0), -1);
            checks.due("1: named(" + t + ")", x.named(t), -14);
            checks.due("1: pick(" + t + ")", x.pick(t), -14);
            checks.due("1: write(" + t + ")", x.write(t), -14);
        }
        Run x = new Run();
        checks.due("1: place()", x.place(), -1);
        checks.due("1: out(0)", x.out(0), -1);
        checks.due("1: end(1)", x.end(1), -1);
        checks.due("1: end(0)", x.end(0), 0);
        checks.due("1: row(0)", x.row(0), 1);
        checks.due("1: read()", x.read(), -20);
        checks.due("1: place() of it", x.place(), 0);
    }

    /** "The twenty bytes of five ints, the highest first" */
    private static void promise2TheHighestFirst() {
        Run x = new Run();
        checks.due("2: feed", x.feed(0x610A6162, 0x63646566, 0x6768696A, 0x6B6C6D6E, 0x6F70710A), 20);
        checks.due("2: read", x.read(), 1);
        checks.due("2: in their order", x.meaning(1, 0, 0), "abcdefghijklmnopq");
        for (int i = 0; i < 20; i++) {
            int[] ints = Checks.fives("a".repeat(i) + "\u00ff" + "a".repeat(19 - i));
            x.feed(ints[0], ints[1], ints[2], ints[3], ints[4]);
            checks.due("2: a byte 255 is no cell's", x.read(), -20);
            checks.due("2: its place", x.place(), i);
        }
        x.feed(-1, -1, -1, -1, -1);
        checks.due("2: all bits set", x.read(), -20);
        checks.due("2: its place", x.place(), 0);
        x.feed(MIN, 0, 0, 0, 0);
        checks.due("2: named by bytes above 127", x.named(1), -2);
    }

    /** "go into the tray: how many it has then" */
    private static void promise2HowManyItHasThen() {
        Run x = new Run();
        for (int i = 1; i <= 510; i++) {
            checks.due("2: feed " + i, x.feed(i, -i, MIN, MAX, 0), 20 * i);
        }
        checks.due("2: all are there", x.end(10200), 10200);
        x = new Run();
        x.feed(0, 0, 0, 0, 0);
        for (int n : new int[] {19, 1, 0}) {
            x.end(n);
            checks.due("2: feed behind " + n, x.feed(0, 0, 0, 0, 0), n + 20);
        }
    }

    private static void feedTimes(CommaTables x, int times) {
        for (int i = 0; i < times; i++) {
            x.feed(0, 0, 0, 0, 0);
        }
    }

    /** "-1, and none does, if it would have more than 16000": only behind 512 calls, where nothing is promised. */
    private static void promise2MoreThan16000() {
        CommaTables x = new CommaTables();
        feedTimes(x, 799);
        checks.due("2: up to 16000", x.feed(0, 0, 0, 0, 0), 16000);
        checks.due("2: more than 16000", x.feed(0, 0, 0, 0, 0), -1);
        checks.due("2: none does", x.end(16001), -1);
        checks.due("2: all before are there", x.end(15981), 15981);
        checks.due("2: 16001", x.feed(0, 0, 0, 0, 0), -1);
        checks.due("2: none does", x.end(15982), -1);
        checks.due("2: end(15980)", x.end(15980), 15980);
        checks.due("2: 16000 again", x.feed(0, 0, 0, 0, 0), 16000);
    }

    /** "or more than 65536 bytes were fed in all": only behind 512 calls too. */
    private static void promise2MoreThan65536InAll() {
        CommaTables x = new CommaTables();
        for (int i = 0; i < 4; i++) {
            feedTimes(x, 800);
            x.feed(0, 0, 0, 0, 0);
            x.end(0);
        }
        // 3200 feeds so far, refused ones not counted: 64000 bytes.
        feedTimes(x, 75);
        checks.due("2: 65520 in all", x.feed(0, 0, 0, 0, 0), 1520);
        checks.due("2: 65540 in all", x.feed(0, 0, 0, 0, 0), -1);
        checks.due("2: none does", x.end(1521), -1);
        checks.due("2: all before are there", x.end(1520), 1520);
        x.end(0);
        checks.due("2: never again", x.feed(0, 0, 0, 0, 0), -1);
    }

    /** "-1, and all stays, if n is below 0 or it has not so many" */
    private static void promise3BelowZeroOrNotSoMany() {
        Run x = new Run();
        x.put("a\n5\n");
        for (int n : outside(0, 5)) {
            checks.due("3: end(" + n + ")", x.end(n), -1);
        }
        checks.due("3: all stays", x.end(4), 4);
        checks.due("3: and is read", x.read(), 1);
        checks.due("3: value", x.value(1, 0, 0), 5);
        checks.due("3: end(0) of none", x.end(0), 0);
        checks.due("3: end(1) of none", x.end(1), -1);
        x.feed(0, 0, 0, 0, 0);
        checks.due("3: end(21) of 20", x.end(21), -1);
        checks.due("3: end(20) of 20", x.end(20), 20);
    }

    /** "Only the first n bytes of the tray count: n" */
    private static void promise3OnlyTheFirstBytesCount() {
        Run x = new Run();
        x.feed(0x610A370A, 0x380A390A, 0, 0, 0);
        for (int n : new int[] {20, 19, 8, 8, 6}) {
            checks.due("3: end(" + n + ")", x.end(n), n);
        }
        checks.due("3: end(7) of 6", x.end(7), -1);
        checks.due("3: what was cut off is gone", x.feed(0x310A0000, 0, 0, 0, 0), 26);
        checks.due("3: end(8)", x.end(8), 8);
        checks.due("3: read", x.read(), 1);
        checks.due("3: rows", x.rows(1), 3);
        checks.due("3: the last", x.value(1, 0, 2), 1);
    }

    /** "the tray is empty then: its number. -20 a fault; -12." */
    private static void promise4TheTrayIsEmptyThen() {
        Run x = new Run();
        checks.due("4: its number", x.read("a\n"), 1);
        checks.due("4: empty then", x.end(1), -1);
        checks.due("4: a fault", x.read("a"), -20);
        checks.due("4: empty then", x.end(1), -1);
        checks.due("4: the next feed", x.feed(0x620A0000, 0, 0, 0, 0), 20);
        x.end(2);
        checks.due("4: is read alone", x.read(), 2);
        for (int t = 3; t <= 40; t++) {
            x.pick(1);
        }
        checks.due("4: no room", x.read("c\n"), -12);
        checks.due("4: empty then", x.end(1), -1);
        checks.due("4: nothing", x.read(), -20);
        checks.due("4: its place", x.place(), 0);
    }

    private static void promise4AFaultComesBeforeNoRoom() {
        Run x = new Run();
        x.read("a\n");
        for (int t = 2; t <= 40; t++) {
            x.pick(1);
        }
        checks.due("4: a fault without room", x.read("a\n1"), -20);
        checks.due("4: its place", x.place(), 3);
        checks.due("4: no fault, but no room", x.read("a\n1\n"), -12);
        checks.due("4: no place", x.place(), -1);
    }

    /** "-1 if it had none, or there was none" */
    private static void promise5NoneOrNoReadYet() {
        Run x = new Run();
        checks.due("5: no read yet", x.place(), -1);
        x.put("a");
        x.named(1);
        x.pick(1);
        x.write(1);
        checks.due("5: no read yet", x.place(), -1);
        x.read("a\n");
        checks.due("5: no fault", x.place(), -1);
    }

    /** "The place of the fault of the latest read()" */
    private static void promise5OfTheLatestRead() {
        Run x = new Run();
        x.read("a\n1");
        checks.due("5: a fault", x.place(), 3);
        checks.due("5: asked again", x.place(), 3);
        x.read("a");
        checks.due("5: a later fault", x.place(), 1);
        x.put("a\n");
        checks.due("5: feed() and end() are no read", x.place(), 1);
        x.named(1);
        x.row(0);
        x.pick(1);
        x.write(1);
        checks.due("5: the others are no read", x.place(), 1);
        x.read("a\n");
        checks.due("5: none after a good read", x.place(), -1);
        x.read("");
        checks.due("5: at the first byte", x.place(), 0);
    }

    /** "How many rows. -14." and "How many columns. -14." */
    private static void promise6And7NoSuchTable() {
        Run x = new Run();
        x.read("a\n");
        x.read("a,b,c,d,e,f,g,h,i,j,k,l,m,n,o,p\n,,,,,,,,,,,,,,,\n");
        x.read("a\n" + "\n".repeat(499));
        checks.due("6: none", x.rows(1), 0);
        checks.due("7: one", x.columns(1), 1);
        checks.due("6: one", x.rows(2), 1);
        checks.due("7: 16", x.columns(2), 16);
        checks.due("6: 499", x.rows(3), 499);
        for (int t : outside(1, 4)) {
            checks.due("6: rows(" + t + ")", x.rows(t), -14);
            checks.due("7: columns(" + t + ")", x.columns(t), -14);
        }
    }

    /** "The number of the column whose name the tray has (0 the first)" */
    private static void promise8ZeroTheFirst() {
        Run x = new Run();
        String longest = "x".repeat(20);
        x.read("a,b,c,d,e,f,g,h,i,j,k,l,m,\"\"\"\", s," + longest + "\n");
        checks.due("8: the first", x.named(1, "a"), 0);
        checks.due("8: the second", x.named(1, "b"), 1);
        checks.due("8: as it means", x.named(1, "\""), 13);
        checks.due("8: with its blank", x.named(1, " s"), 14);
        checks.due("8: the last, 20 bytes", x.named(1, longest), 15);
        checks.due("8: 19 bytes", x.named(1, longest.substring(1)), -2);
        checks.due("8: 21 bytes", x.named(1, longest + "x"), -2);
        checks.due("8: 40 bytes", x.named(1, longest + longest), -2);
        checks.due("8: the last byte is another", x.named(1, longest.substring(1) + "y"), -2);
    }

    /** "-14, -2 none." */
    private static void promise8NoneOrNoSuchTable() {
        Run x = new Run();
        x.read("a,bc\n");
        for (String other : new String[] {"", "b", "bcd", "A", " a", "a ", "\"a\"", "a,bc", "a\n", "a\u0000", "\u00e1", "\n"}) {
            checks.due("8: named <" + other + ">", x.named(1, other), -2);
        }
        for (int t : outside(1, 2)) {
            checks.due("8: named(" + t + ")", x.named(t, "a"), -14);
        }
    }

    /** "the tray is empty then" */
    private static void promise8TheTrayIsEmptyThen() {
        Run x = new Run();
        x.read("a\n");
        checks.due("8: found", x.named(1, "a"), 0);
        checks.due("8: empty then", x.end(1), -1);
        checks.due("8: none", x.named(1, "b"), -2);
        checks.due("8: empty then", x.end(1), -1);
        checks.due("8: no such table", x.named(2, "a"), -14);
        checks.due("8: empty then", x.end(1), -1);
        checks.due("8: asked with nothing", x.named(1), -2);
    }

    /** "The lane of column c. -14, -2." */
    private static void promise9NoSuchTableOrColumn() {
        Run x = new Run();
        x.read("a,b\ntrue,1\n");
        checks.due("9: the first", x.lane(1, 0), 0);
        checks.due("9: the last", x.lane(1, 1), 4);
        for (int c : outside(0, 2)) {
            checks.due("9: lane(1, " + c + ")", x.lane(1, c), -2);
            checks.due("9: lane(2, " + c + ")", x.lane(2, c), -14);
        }
        for (int t : outside(1, 2)) {
            checks.due("9: lane(" + t + ", 0)", x.lane(t, 0), -14);
        }
    }

    /** Two columns and three rows, none of whose values is 0. */
    private static Run sixCells() {
        Run x = new Run();
        x.read("a,b\n11,12\n21,22\n31,32\n");
        return x;
    }

    /** "0 if there is none" */
    private static void promise10ZeroIfThereIsNone() {
        Run x = sixCells();
        checks.due("10: the first", x.value(1, 0, 0), 11);
        checks.due("10: the last", x.value(1, 1, 2), 32);
        for (int c : outside(0, 2)) {
            checks.due("10: value(1, " + c + ", 0)", x.value(1, c, 0), 0);
            checks.due("10: value(1, " + c + ", 1)", x.value(1, c, 1), 0);
        }
        for (int row : outside(0, 3)) {
            checks.due("10: value(1, 0, " + row + ")", x.value(1, 0, row), 0);
            checks.due("10: value(1, 1, " + row + ")", x.value(1, 1, row), 0);
        }
        for (int t : outside(1, 2)) {
            checks.due("10: value(" + t + ", 0, 0)", x.value(t, 0, 0), 0);
        }
        checks.due("10: none of text is 0 too, not -1", noRows().value(1, 0, 0), 0);
    }

    /** Rows far beyond the last one whose first cell would be one that is there, if the product wrapped around. */
    private static void promise10To15RowsThatWrapAround() {
        Run x = new Run();
        x.read("a,b,c,d\n,,,\n1,2,3,4\n");
        for (int row : new int[] {1 << 30, (1 << 30) + 1, MIN, MIN + 1, -(1 << 30), 1 - (1 << 30)}) {
            checks.due("10: value(1, 1, " + row + ")", x.value(1, 1, row), 0);
            checks.due("11: missing(1, 1, " + row + ")", x.missing(1, 1, row), false);
            checks.due("12: length(1, 1, " + row + ")", x.length(1, 1, row), -2);
            checks.due("13: at(1, 1, " + row + ", 0)", x.at(1, 1, row, 0), -1);
        }
        for (int row : new int[] {1 << 30, (1 << 30) + 1}) {
            checks.due("14: row(" + row + ")", x.row(row), 1);
            checks.due("15: it is not there", x.pick(1), -2);
        }
    }

    private static Run noRows() {
        Run x = new Run();
        x.read("a\n");
        return x;
    }

    /** "false if there is none" */
    private static void promise11FalseIfThereIsNone() {
        Run x = new Run();
        x.read("a,b\n,\n,\n,\n");
        checks.due("11: the first", x.missing(1, 0, 0), true);
        checks.due("11: the last", x.missing(1, 1, 2), true);
        for (int c : outside(0, 2)) {
            checks.due("11: missing(1, " + c + ", 0)", x.missing(1, c, 0), false);
            checks.due("11: missing(1, " + c + ", 1)", x.missing(1, c, 1), false);
        }
        for (int row : outside(0, 3)) {
            checks.due("11: missing(1, 1, " + row + ")", x.missing(1, 1, row), false);
        }
        for (int t : outside(1, 2)) {
            checks.due("11: missing(" + t + ", 0, 0)", x.missing(t, 0, 0), false);
        }
        checks.due("11: no rows", noRows().missing(1, 0, 0), false);
    }

    /** "How many bytes the cell means. -14, -2." */
    private static void promise12NoSuchTableColumnOrRow() {
        Run x = sixCells();
        checks.due("12: the first", x.length(1, 0, 0), 2);
        checks.due("12: the last", x.length(1, 1, 2), 2);
        for (int c : outside(0, 2)) {
            checks.due("12: length(1, " + c + ", 0)", x.length(1, c, 0), -2);
            checks.due("12: length(1, " + c + ", 1)", x.length(1, c, 1), -2);
            checks.due("12: length(2, " + c + ", 0)", x.length(2, c, 0), -14);
        }
        for (int row : outside(0, 3)) {
            checks.due("12: length(1, 1, " + row + ")", x.length(1, 1, row), -2);
            checks.due("12: length(0, 1, " + row + ")", x.length(0, 1, row), -14);
        }
        for (int t : outside(1, 2)) {
            checks.due("12: length(" + t + ", 0, 0)", x.length(t, 0, 0), -14);
        }
        checks.due("12: no rows", noRows().length(1, 0, 0), -2);
        x.read("a,b\n,\"\"\n\"\"\"\"," + "y".repeat(40) + "\n");
        checks.due("12: of a missing cell", x.length(2, 0, 0), 0);
        checks.due("12: of an empty cell", x.length(2, 1, 0), 0);
        checks.due("12: of \"\" for one \"", x.length(2, 0, 1), 1);
        checks.due("12: of the longest cell", x.length(2, 1, 1), 40);
    }

    /** "Byte i of what it means; -1 if there is none." */
    private static void promise13MinusOneIfThereIsNone() {
        Run x = new Run();
        x.read("a,b\n\"x\"\"~\"," + "y".repeat(39) + "z\n,\"\"\n");
        checks.due("13: the first byte", x.at(1, 0, 0, 0), 'x');
        checks.due("13: \"\" is one byte", x.at(1, 0, 0, 1), '"');
        checks.due("13: the last byte", x.at(1, 0, 0, 2), '~');
        checks.due("13: the last of 40", x.at(1, 1, 0, 39), 'z');
        checks.due("13: behind 40", x.at(1, 1, 0, 40), -1);
        checks.due("13: of a missing cell", x.at(1, 0, 1, 0), -1);
        checks.due("13: of an empty cell", x.at(1, 1, 1, 0), -1);
        for (int i : outside(0, 3)) {
            checks.due("13: at(1, 0, 0, " + i + ")", x.at(1, 0, 0, i), -1);
        }
        for (int c : outside(0, 2)) {
            checks.due("13: at(1, " + c + ", 0, 0)", x.at(1, c, 0, 0), -1);
            checks.due("13: at(1, 0, " + c + ", 0)", x.at(1, 0, c, 0), -1);
        }
        for (int t : outside(1, 2)) {
            checks.due("13: at(" + t + ", 0, 0, 0)", x.at(t, 0, 0, 0), -1);
        }
    }

    /** "-1 if .. row is below 0" */
    private static void promise14Below0() {
        Run x = sixCells();
        checks.due("14: row(0)", x.row(0), 1);
        checks.due("14: row(-1)", x.row(-1), -1);
        checks.due("14: row(MIN)", x.row(MIN), -1);
        checks.due("14: one more", x.row(2), 2);
        checks.due("14: without the refused ones", x.pick(1), 2);
        checks.due("14: rows", x.rows(2), 2);
        checks.due("14: the second", x.value(2, 0, 1), 31);
    }

    /** "-1 if there are 499" */
    private static void promise14IfThereAre499() {
        Run x = new Run();
        x.read("a\n5\n6\n");
        for (int i = 1; i <= 498; i++) {
            checks.due("14: row " + i, x.row(0), i);
        }
        checks.due("14: row 499", x.row(1), 499);
        checks.due("14: row 500", x.row(1), -1);
        checks.due("14: row 500, below 0", x.row(-1), -1);
        checks.due("14: pick(1)", x.pick(1), 2);
        checks.due("14: without the refused ones", x.rows(2), 499);
        checks.due("14: the last", x.value(2, 0, 498), 6);
        checks.due("14: the last but one", x.value(2, 0, 497), 5);
        checks.due("14: from the first again", x.row(0), 1);
    }

    /** "The rows told, used up" */
    private static void promise15UsedUp() {
        Run x = sixCells();
        x.row(0);
        checks.due("15: pick(1)", x.pick(1), 2);
        checks.due("15: used up", x.row(1), 1);
        checks.due("15: no such table", x.pick(3), -14);
        checks.due("15: used up", x.row(2), 1);
        x.row(3);
        checks.due("15: not there", x.pick(1), -2);
        checks.due("15: used up", x.row(2), 1);
        checks.due("15: no number was taken", x.pick(1), 3);
        checks.due("15: just the row told last", x.rows(3), 1);
        checks.due("15: its value", x.value(3, 0, 0), 31);
        for (int t = 4; t <= 40; t++) {
            x.pick(1);
        }
        x.row(0);
        checks.due("15: no room", x.pick(1), -12);
        checks.due("15: used up", x.row(0), 1);
        for (int t : outside(1, 41)) {
            checks.due("15: pick(" + t + ")", x.pick(t), -14);
        }
    }

    /** "-2 one of them is not there" */
    private static void promise15OneOfThemIsNotThere() {
        for (int row : new int[] {3, 4, 499, 1 << 30, 1 << 29, MAX - 1, MAX}) {
            for (int place = 0; place < 3; place++) {
                Run x = sixCells();
                for (int i = 0; i < 3; i++) {
                    checks.due("15: row is told", x.row(i == place ? row : 2), i + 1);
                }
                checks.due("15: row " + row + " is not there", x.pick(1), -2);
                checks.due("15: no table", x.rows(2), -14);
                checks.due("15: no such table comes first", x.pick(2), -14);
            }
        }
        Run x = noRows();
        x.row(0);
        checks.due("15: not the first of none", x.pick(1), -2);
        x = sixCells();
        x.row(2);
        x.pick(1);
        x.row(1);
        checks.due("15: there in table 1, not in table 2", x.pick(2), -2);
        x.row(0);
        checks.due("15: of a picked table", x.pick(2), 3);
        checks.due("15: its value", x.value(3, 1, 0), 32);
        for (int t = 4; t <= 40; t++) {
            x.pick(1);
        }
        x.row(3);
        checks.due("15: not there comes before no room", x.pick(1), -2);
        x.row(0);
        checks.due("15: no room", x.pick(1), -12);
    }

    private static void promise15NoRows() {
        Run x = sixCells();
        checks.due("15: no rows told", x.pick(1), 2);
        checks.due("15: no rows", x.rows(2), 0);
        checks.due("15: all columns", x.columns(2), 2);
        checks.due("15: a name", x.named(2, "b"), 1);
        checks.due("15: a lane", x.lane(2, 1), 8);
        checks.due("15: no value", x.value(2, 0, 0), 0);
        checks.due("15: its text", x.text(2), "a,b\n");
    }

    private static void promise15TheLastOf499Rows() {
        StringBuilder text = new StringBuilder("a\n");
        for (int row = 0; row < 499; row++) {
            text.append(row % 10).append('\n');
        }
        Run x = new Run();
        x.read(text.toString());
        x.rowTimes(498, 200);
        checks.due("15: the last row, 200 times", x.pick(1), 2);
        checks.due("15: rows", x.rows(2), 200);
        checks.due("15: value", x.value(2, 0, 199), 8);
        x.row(499);
        checks.due("15: row 499 is not there", x.pick(1), -2);
    }

    /** "Writes a table's text: how many bytes. -14" */
    private static void promise16NoSuchTable() {
        Run x = noRows();
        checks.due("16: the shortest text", x.write(1), 2);
        for (int t : outside(1, 2)) {
            checks.due("16: write(" + t + ")", x.write(t), -14);
            checks.due("17: what was written before stays", x.out(0), 'a');
        }
        checks.due("17: its last byte", x.out(1), 10);
        checks.due("17: behind it", x.out(2), -1);
    }

    /** "-12 more than 30000": only picked rows can make a text that long. */
    private static void promise16MoreThan30000() {
        String names = "n".repeat(20) + "," + "m".repeat(20) + "," + "o".repeat(20) + "\n";
        String line = ("x".repeat(40) + ",").repeat(2) + "y".repeat(17) + "\n";
        for (int over = -1; over <= 1; over++) {
            Run x = new Run();
            String lastLine = "p".repeat(34 + over) + ",,\n";
            checks.due("16: size", names.length() + 299 * line.length() + lastLine.length(), 30000 + over);
            x.read(names + line + lastLine);
            int before = x.write(1);
            x.rowTimes(0, 299);
            x.row(1);
            checks.due("16: pick", x.pick(1), 2);
            boolean fits = over <= 0;
            checks.due("16: " + (30000 + over) + " bytes", x.write(2), fits ? 30000 + over : -12);
            checks.due("17: its last byte", x.out(29999 + over), fits ? 10 : -1);
            checks.due("17: behind it", x.out(30000 + over), -1);
            checks.due("17: what was written last", x.out(before - 1), fits ? 'x' : 10);
            checks.due("17: what was written last", x.out(before), fits ? 'x' : -1);
            checks.due("16: a shorter one still", x.write(1), before);
        }
    }

    /** "-1 if there is none" */
    private static void promise17MinusOneIfThereIsNone() {
        Run x = noRows();
        for (int i : new int[] {MIN, -1, 0, 1, MAX}) {
            checks.due("17: nothing was written: out(" + i + ")", x.out(i), -1);
        }
        x.write(2);
        checks.due("17: nothing was written by a refused call", x.out(0), -1);
        x.write(1);
        checks.due("17: the first", x.out(0), 'a');
        checks.due("17: the last", x.out(1), 10);
        for (int i : outside(0, 2)) {
            checks.due("17: out(" + i + ")", x.out(i), -1);
        }
    }

    /** "Byte i of what was written last" */
    private static void promise17WhatWasWrittenLast() {
        Run x = new Run();
        x.read("long name,b\n1,2\n");
        x.read("c\n");
        checks.due("17: a text", x.text(1), "long name,b\n1,2\n");
        checks.due("17: a shorter text", x.text(2), "c\n");
        checks.due("17: nothing of the longer one", x.out(2), -1);
        x.read("d\n7\n");
        x.row(0);
        x.pick(1);
        checks.due("17: read() and pick() write nothing", x.out(0), 'c');
        checks.due("17: the longer one again", x.text(1), "long name,b\n1,2\n");
    }
}
