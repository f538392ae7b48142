/** Every text of up to six bytes made of seven codes, held against PlainTables: no fault so short is left to chance. */
public final class ShortTextsTest {
    private static final Checks checks = new Checks();
    /** One of each kind that the document tells apart, and a second byte for names that are not alike. */
    private static final String CODES = "a1,\"\n \u0001";
    private static final int LONGEST = 6;

    public static void main(String[] args) {
        longerBy("");
        checks.finish();
    }

    private static void longerBy(String text) {
        compare(text);
        for (int i = 0; i < CODES.length() && text.length() < LONGEST; i++) {
            longerBy(text + CODES.charAt(i));
        }
    }

    private static void compare(String text) {
        CommaTables x = new CommaTables();
        PlainTables plain = new PlainTables();
        Checks.put(x, text);
        plain.put(text);
        int want = plain.read();
        checks.due("read of <" + text + ">", x.read(), want);
        checks.due("place in <" + text + ">", x.place(), plain.place());
        if (want == 1) {
            compareCells(text, x, plain);
            compareTexts(text, x, plain);
        }
    }

    private static void compareCells(String text, CommaTables x, PlainTables plain) {
        checks.due("rows of <" + text + ">", x.rows(1), plain.rows(1));
        checks.due("columns of <" + text + ">", x.columns(1), plain.columns(1));
        for (int c = 0; c < plain.columns(1); c++) {
            checks.due("lane " + c + " of <" + text + ">", x.lane(1, c), plain.lane(1, c));
            for (int row = 0; row < plain.rows(1); row++) {
                String cell = "cell " + c + ", " + row + " of <" + text + ">: ";
                checks.due(cell + "value", x.value(1, c, row), plain.value(1, c, row));
                checks.due(cell + "missing", x.missing(1, c, row), plain.missing(1, c, row));
                checks.due(cell + "length", x.length(1, c, row), plain.length(1, c, row));
            }
        }
    }

    private static void compareTexts(String text, CommaTables x, PlainTables plain) {
        int size = plain.write(1);
        checks.due("write of <" + text + ">", x.write(1), size);
        for (int i = 0; i <= size; i++) {
            checks.due("out(" + i + ") of <" + text + ">", x.out(i), plain.out(i));
        }
    }
}
