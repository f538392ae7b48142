/** Each promise of the document by its number, with ordinary inputs; the boundaries have tests of their own. */
public final class PromisesTest {
    private static final Checks checks = new Checks();
    /** Five columns, one of each lane, with a row of missing cells. */
    private static final String PEOPLE = "alive,age,steps,size,name\n"
        + "true,41,9000000000,1.75,Mary\n"
        + "false,-7,12,-0.5,\"Smith, \"\"Bo\"\"\"\n"
        + ",,,,\n"
        + "true,100,-1,2,Anne\n";

    public static void main(String[] args) {
        promise1NewObject();
        promise2And3FeedAndEnd();
        promise4And5ReadAndPlace();
        promise6And7RowsAndColumns();
        promise8Named();
        promise9Lane();
        promise10Value();
        promise11Missing();
        promise12And13LengthAndAt();
        promise14And15RowAndPick();
        promise16And17WriteAndOut();
        theExampleOfTheReadme();
        checks.finish();
    }

    private static Run people() {
        Run x = new Run();
        checks.due("read", x.read(PEOPLE), 1);
        return x;
    }

    private static void promise1NewObject() {
        Run x = new Run();
        checks.due("1: rows(1)", x.rows(1), -14);
        checks.due("1: end(1)", x.end(1), -1);
        checks.due("1: place()", x.place(), -1);
        checks.due("1: out(0)", x.out(0), -1);
    }

    private static void promise2And3FeedAndEnd() {
        Run x = new Run();
        checks.due("2: feed", x.feed(0x61620A31, 0x32333435, 0x36373839, 0x0A2D350A, 0x2E2F3A0A), 20);
        checks.due("2: feed again", x.feed(0, 0, 0, 0, 0), 40);
        checks.due("3: end", x.end(16), 16);
        checks.due("4: read", x.read(), 1);
        checks.due("2: the name", x.named(1, "ab"), 0);
        checks.due("2: the first number", x.value(1, 0, 0), 123456789);
        checks.due("3: the last number", x.value(1, 0, 1), -5);
        checks.due("3: no more of them", x.rows(1), 2);
    }

    private static void promise4And5ReadAndPlace() {
        Run x = new Run();
        checks.due("4: a table", x.read("a,b\n1,2\n"), 1);
        checks.due("5: no fault", x.place(), -1);
        checks.due("4: a fault", x.read("a,b\n1,2\n3\n"), -20);
        checks.due("5: its place", x.place(), 9);
        checks.due("4: another table", x.read("c\nx\n"), 2);
        checks.due("5: no fault", x.place(), -1);
        checks.due("4: the first table stays", x.value(1, 1, 0), 2);
    }

    private static void promise6And7RowsAndColumns() {
        Run x = people();
        checks.due("6: rows", x.rows(1), 4);
        checks.due("7: columns", x.columns(1), 5);
        checks.due("6: no such table", x.rows(2), -14);
        checks.due("7: no such table", x.columns(2), -14);
    }

    private static void promise8Named() {
        Run x = people();
        checks.due("8: alive", x.named(1, "alive"), 0);
        checks.due("8: name", x.named(1, "name"), 4);
        checks.due("8: none", x.named(1, "weight"), -2);
        checks.due("8: no such table", x.named(2, "name"), -14);
    }

    private static void promise9Lane() {
        Run x = people();
        int[] lanes = {0, 4, 5, 7, 8, -2};
        for (int c = 0; c < lanes.length; c++) {
            checks.due("9: lane of column " + c, x.lane(1, c), lanes[c]);
        }
        checks.due("9: no such table", x.lane(2, 0), -14);
    }

    private static void promise10Value() {
        Run x = people();
        long[][] values = {
            {1, 41, 9000000000L, Double.doubleToLongBits(1.75), 1},
            {0, -7, 12, Double.doubleToLongBits(-0.5), 2},
            {0, 0, 0, 0, -1},
            {1, 100, -1, Double.doubleToLongBits(2.0), 0},
            {0, 0, 0, 0, 0}};
        for (int row = 0; row < values.length; row++) {
            for (int c = 0; c < values[row].length; c++) {
                checks.due("10: value of column " + c + ", row " + row, x.value(1, c, row), values[row][c]);
            }
        }
    }

    private static void promise11Missing() {
        Run x = people();
        for (int c = 0; c < 5; c++) {
            checks.due("11: not missing: column " + c, x.missing(1, c, 1), false);
            checks.due("11: missing: column " + c, x.missing(1, c, 2), true);
            checks.due("11: no such row: column " + c, x.missing(1, c, 4), false);
        }
    }

    private static void promise12And13LengthAndAt() {
        Run x = people();
        checks.due("12: as it means", x.length(1, 4, 1), 11);
        checks.due("13: as it means", x.meaning(1, 4, 1), "Smith, \"Bo\"");
        checks.due("13: digits as they stand", x.meaning(1, 3, 1), "-0.5");
        checks.due("12: missing", x.length(1, 4, 2), 0);
        checks.due("12: no such row", x.length(1, 4, 4), -2);
        checks.due("13: no such byte", x.at(1, 4, 1, 11), -1);
    }

    private static void promise14And15RowAndPick() {
        Run x = people();
        checks.due("14: the first", x.row(3), 1);
        checks.due("14: the second", x.row(1), 2);
        checks.due("14: the first again", x.row(3), 3);
        checks.due("15: pick", x.pick(1), 2);
        checks.due("15: rows", x.rows(2), 3);
        checks.due("15: columns", x.columns(2), 5);
        checks.due("15: names come along", x.named(2, "steps"), 2);
        checks.due("15: lanes are guessed anew", x.lane(2, 2), 4);
        checks.due("15: rows in the order told", x.value(2, 1, 0), 100);
        checks.due("15: rows in the order told", x.value(2, 1, 1), -7);
        checks.due("15: a row told twice", x.value(2, 1, 2), 100);
        checks.due("15: words are numbered anew", x.value(2, 4, 1), 1);
        checks.due("15: the old table stays", x.value(1, 4, 1), 2);
        x.row(1);
        checks.due("15: of a picked table", x.pick(2), 3);
        checks.due("15: its value", x.value(3, 1, 0), -7);
    }

    private static void promise16And17WriteAndOut() {
        Run x = people();
        checks.due("16: write", x.write(1), PEOPLE.length());
        checks.due("17: the first byte", x.out(0), 'a');
        checks.due("17: the last byte", x.out(PEOPLE.length() - 1), 10);
        checks.due("16: text of a table read", x.text(1), PEOPLE);
        x.row(1);
        x.row(2);
        x.pick(1);
        checks.due("16: text of picked rows", x.text(2),
            "alive,age,steps,size,name\nfalse,-7,12,-0.5,\"Smith, \"\"Bo\"\"\"\n,,,,\n");
        checks.due("17: no such byte", x.out(67), -1);
    }

    /** Call by call as the README shows them, so that it goes on telling the truth. */
    private static void theExampleOfTheReadme() {
        CommaTables x = new CommaTables();
        checks.due("README: feed", x.feed(0x612C620A, 0x312C780A, 0x322C790A, 0, 0), 20);
        checks.due("README: end", x.end(12), 12);
        int t = x.read();
        checks.due("README: read", t, 1);
        checks.due("README: rows", x.rows(t), 2);
        checks.due("README: lane", x.lane(t, 0), 4);
        checks.due("README: value of an int", x.value(t, 0, 1), 2);
        checks.due("README: value of a word", x.value(t, 1, 1), 1);
        x.feed(0x62000000, 0, 0, 0, 0);
        x.end(1);
        checks.due("README: named", x.named(t), 1);
        checks.due("README: row", x.row(1), 1);
        int picked = x.pick(t);
        checks.due("README: pick", picked, 2);
        checks.due("README: write", x.write(picked), 8);
        checks.due("README: out", x.out(0), 97);
    }
}
