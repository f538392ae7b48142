/**
 * "all texts together 65536 bytes", and the -12 of read() and pick() that goes with it: a text counts as write()
 * would write it, for tables read as for tables picked.
 */
public final class AllTextsBoundariesTest {
    private static final Checks checks = new Checks();
    private static final int ROOM = 65536;
    private static final String NAMES = "a,b,c,d,e,f,g,h,i,j,k,l,m,n,o,p\n";
    private static final String LINE = ("x".repeat(40) + ",").repeat(15) + "x".repeat(40) + "\n";

    public static void main(String[] args) {
        readUpToTheRoom();
        readBeyondTheRoom();
        pickUpToTheRoom();
        pickBeyondTheRoom();
        oneLongTable();
        namesCount();
        quotesCountIfTheyAreWritten();
        quotesInsideCount();
        aFaultCountsNothing();
        fullButForNothing();
        checks.finish();
    }

    /** An object with three tables whose texts leave so many bytes: one wide, one picked of it, and the rest. */
    private static Run leaving(int bytes) {
        Run x = new Run();
        int left = ROOM - bytes;
        checks.due("wide: read", x.read(NAMES + LINE), 1);
        left -= NAMES.length() + LINE.length();
        int count = (left - NAMES.length() - 3) / LINE.length();
        x.rowTimes(0, count);
        checks.due("wide: pick", x.pick(1), 2);
        left -= NAMES.length() + count * LINE.length();
        String rest = restOf(left);
        checks.due("rest: size", rest.length(), left);
        checks.due("rest: read", x.read(rest), 3);
        return x;
    }

    private static String restOf(int size) {
        int cells = size - 3;
        return "n\n" + ("y".repeat(40) + "\n").repeat(cells / 41) + "y".repeat(cells % 41) + "\n";
    }

    private static void readUpToTheRoom() {
        Run x = leaving(6);
        checks.due("read: 65536 bytes together", x.read("a\nxyz\n"), 4);
        checks.due("read: its cell", x.meaning(4, 0, 0), "xyz");
        checks.due("read: full", x.read("a\n"), -12);
        x = leaving(7);
        checks.due("read: 65535 bytes together", x.read("a\nxyz\n"), 4);
        checks.due("read: one byte left is no table", x.read("a\n"), -12);
    }

    private static void readBeyondTheRoom() {
        Run x = leaving(5);
        checks.due("read: 65537 bytes together", x.read("a\nxyz\n"), -12);
        checks.due("read: no fault", x.place(), -1);
        checks.due("read: the tray is empty then", x.end(1), -1);
        checks.due("read: no such table", x.rows(4), -14);
        checks.due("read: what was refused counts nothing", x.read("a\n-7\n"), 4);
        checks.due("read: the next table's value", x.value(4, 0, 0), -7);
        checks.due("read: the first table stays", x.at(1, 15, 0, 39), 'x');
        checks.due("read: the third table stays", x.at(3, 0, 0, 0), 'y');
    }

    private static void pickUpToTheRoom() {
        int size = NAMES.length() + LINE.length();
        Run x = leaving(size);
        x.row(0);
        checks.due("pick: 65536 bytes together", x.pick(1), 4);
        checks.due("pick: rows", x.rows(4), 1);
        checks.due("pick: its last byte", x.at(4, 15, 0, 39), 'x');
        checks.due("pick: full", x.pick(1), -12);
    }

    private static void pickBeyondTheRoom() {
        int size = NAMES.length() + LINE.length();
        Run x = leaving(size - 1);
        x.row(0);
        checks.due("pick: 65537 bytes together", x.pick(1), -12);
        checks.due("pick: no such table", x.rows(4), -14);
        checks.due("pick: the rows told are used up", x.row(1), 1);
        checks.due("pick: a row that is not there comes first", x.pick(1), -2);
        checks.due("pick: no such table comes first", x.pick(4), -14);
        checks.due("pick: what was refused counts nothing", x.read(NAMES + LINE.substring(1)), 4);
        checks.due("pick: full", x.pick(1), -12);
    }

    private static void oneLongTable() {
        for (int count : new int[] {98, 99}) {
            Run x = new Run();
            x.read(NAMES + LINE);
            x.rowTimes(0, count);
            int together = 2 * NAMES.length() + (count + 1) * LINE.length();
            checks.due("long: " + together + " bytes", x.pick(1), together <= ROOM ? 2 : -12);
            checks.due("long: rows", x.rows(2), together <= ROOM ? count : -14);
        }
    }

    private static void namesCount() {
        checks.due("names: just room", leaving(NAMES.length()).pick(1), 4);
        checks.due("names: one byte too many", leaving(NAMES.length() - 1).pick(1), -12);
        checks.due("names: just room", leaving(2).read("a\n"), 4);
        checks.due("names: one byte too many", leaving(2).read("ab\n"), -12);
    }

    private static void quotesCountIfTheyAreWritten() {
        checks.due("a name in \" that it doesn't need", leaving(4).read("\"a\"\n1\n"), 4);
        checks.due("a name in \" that it doesn't need", leaving(4).read("\"a\"\n12\n"), -12);
        checks.due("a name that is written in \"", leaving(7).read(" a\n1\n"), 4);
        checks.due("a name that is written in \"", leaving(6).read(" a\n1\n"), -12);
        checks.due("a cell that was in \"", leaving(6).read("a\n\"1\"\n"), 4);
        checks.due("a cell that was in \"", leaving(5).read("a\n\"1\"\n"), -12);
        checks.due("a cell that is written in \"", leaving(7).read("a\n 1\n"), 4);
        checks.due("a cell that is written in \"", leaving(6).read("a\n 1\n"), -12);
    }

    /** Lines with 132 bytes of text, though their cells mean 63. */
    private static void quotesInsideCount() {
        String names = "\"a,\",b\n";
        String line = "\"" + "\"\"".repeat(40) + "\",\"" + "\"\"".repeat(23) + "\"\n";
        for (int over = 0; over <= 1; over++) {
            Run x = new Run();
            String lastLine = "y".repeat(23 + over) + ",\n";
            int together = 2 * (names.length() + lastLine.length()) + 496 * line.length();
            checks.due("\"\": size", together, ROOM + 2 * over);
            x.read(names + line + lastLine);
            x.row(1);
            x.rowTimes(0, 495);
            checks.due("\"\": " + together + " bytes as written", x.pick(1), over == 0 ? 2 : -12);
        }
    }

    private static void aFaultCountsNothing() {
        Run x = leaving(4);
        checks.due("a fault comes before no room", x.read("a\nxyz"), -20);
        checks.due("its place", x.place(), 5);
        checks.due("a fault counts nothing", x.read("a\n1\n"), 4);
    }

    private static void fullButForNothing() {
        Run x = leaving(0);
        checks.due("full: read", x.read("a\n"), -12);
        checks.due("full: pick", x.pick(3), -12);
        checks.due("full: fault", x.read(""), -20);
        checks.due("full: named", x.named(3, "n"), 0);
        checks.due("full: write", x.write(1), NAMES.length() + LINE.length());
        checks.due("full: out", x.out(NAMES.length()), 'x');
    }
}
