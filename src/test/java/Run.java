/** An object with its calls counted, since the document promises nothing behind the 512th. */
final class Run {
    private static final int PROMISED_CALLS = 512;
    private final CommaTables x = new CommaTables();
    private int calls = 0;

    private CommaTables counted() {
        calls++;
        if (calls > PROMISED_CALLS) {
            throw new IllegalStateException("this test asks for more than what is promised: 512 calls");
        }
        return x;
    }

    int feed(int a, int b, int c, int d, int e) {
        return counted().feed(a, b, c, d, e);
    }

    int end(int n) {
        return counted().end(n);
    }

    int read() {
        return counted().read();
    }

    int place() {
        return counted().place();
    }

    int rows(int t) {
        return counted().rows(t);
    }

    int columns(int t) {
        return counted().columns(t);
    }

    int named(int t) {
        return counted().named(t);
    }

    int lane(int t, int c) {
        return counted().lane(t, c);
    }

    long value(int t, int c, int row) {
        return counted().value(t, c, row);
    }

    boolean missing(int t, int c, int row) {
        return counted().missing(t, c, row);
    }

    int length(int t, int c, int row) {
        return counted().length(t, c, row);
    }

    int at(int t, int c, int row, int i) {
        return counted().at(t, c, row, i);
    }

    int row(int row) {
        return counted().row(row);
    }

    int pick(int t) {
        return counted().pick(t);
    }

    int write(int t) {
        return counted().write(t);
    }

    int out(int i) {
        return counted().out(i);
    }

    /** Makes the tray, which must be empty, hold just this text. */
    void put(String text) {
        int[] fives = Checks.fives(text);
        for (int i = 0; i < fives.length; i += 5) {
            feed(fives[i], fives[i + 1], fives[i + 2], fives[i + 3], fives[i + 4]);
        }
        end(text.length());
    }

    int read(String text) {
        put(text);
        return read();
    }

    int named(int t, String name) {
        put(name);
        return named(t);
    }

    /** Tells one row so many times. */
    void rowTimes(int row, int times) {
        for (int i = 0; i < times; i++) {
            row(row);
        }
    }

    /** A short table's text, asked byte by byte. */
    String text(int t) {
        int size = write(t);
        StringBuilder text = new StringBuilder();
        for (int i = 0; i < size; i++) {
            text.append((char) out(i));
        }
        return text.toString();
    }

    /** What a cell means, asked byte by byte. */
    String meaning(int t, int c, int row) {
        int size = length(t, c, row);
        StringBuilder meaning = new StringBuilder();
        for (int i = 0; i < size; i++) {
            meaning.append((char) at(t, c, row, i));
        }
        return meaning.toString();
    }
}
