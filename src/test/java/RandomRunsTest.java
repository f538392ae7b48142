import java.util.Arrays;
import java.util.Random;

/** Random runs of calls, held against PlainTables; the seeds are fixed, so every run is the same each time. */
public final class RandomRunsTest {
    private static final int RUNS = 6000;
    private static final String[] WORDS = {"", "", "\"\"", "true", "false", "\"true\"", "0", "-0", "7", "-12", "007",
        "2147483647", "2147483648", "-2147483648", "-2147483649", "0000000001", "00000000001", "9223372036854775807",
        "9223372036854775808", "-9223372036854775808", "999999999999999", "1000000000000000", "1.5", "-0.0", "0.1",
        "123456789012.345", "123456789012.3456", "0.00000000000001", "5.", ".5", "-", "1e3", " a", "a ", "a", "ab", "b",
        "\"a\"", "\"a,b\"", "\"a\"\"b\"", "\" \"", " ", "~", "\"1\"", "x".repeat(40), "x".repeat(41),
        "\"" + "\"\"".repeat(40) + "\"", "\"" + "\"\"".repeat(41) + "\""};
    private static final String[] NAMES = {"a", "b", "c", "d", "e", "f", "g", "h", "i", "j", "k", "l", "m", "n", "o",
        "p", "q", "\"r\"", "\"s,t\"", "\"u\"\"\"", " v", "w ", "y".repeat(20), "z".repeat(21), "\"\"", ""};
    private static final String[] LONG_WORDS = {"x".repeat(40), "y".repeat(37), " " + "z".repeat(39), "\"" + "w".repeat(40) + "\"",
        "\"" + "\"\"".repeat(30) + "\"", "v".repeat(20)};
    private static final String BREAKERS = "\",\n \u0000\u001f\u007f\u00ff0a~";

    private final Checks checks;
    private final Random random;
    private final CommaTables x = new CommaTables();
    private final PlainTables plain = new PlainTables();

    private RandomRunsTest(Checks checks, long seed) {
        this.checks = checks;
        this.random = new Random(seed);
    }

    public static void main(String[] args) {
        Checks checks = new Checks();
        for (int seed = 1; seed <= RUNS; seed++) {
            new RandomRunsTest(checks, seed).run("seed " + seed + ": ");
        }
        checks.finish();
    }

    private void run(String seed) {
        int steps = 1 + random.nextInt(random.nextInt(10) == 0 ? 60 : 12);
        if (random.nextInt(20) == 0) {
            fillTheRoom(seed);
        }
        for (int i = 0; i < steps; i++) {
            switch (random.nextInt(6)) {
                case 0, 1 -> readText(seed, randomText());
                case 2, 3 -> pickRows(seed);
                case 4 -> askName(seed);
                default -> writeTable(seed);
            }
        }
        for (int t = -1; t <= 42; t++) {
            askTable(seed, t);
        }
    }

    /** Rows so long that the texts together come near 65536 bytes, whatever comes behind them. */
    private void fillTheRoom(String seed) {
        int columns = 14 + random.nextInt(3);
        StringBuilder text = new StringBuilder(String.join(",", Arrays.copyOf(NAMES, columns))).append('\n');
        for (int c = 0; c < columns; c++) {
            text.append(LONG_WORDS[random.nextInt(LONG_WORDS.length)]).append(c + 1 < columns ? ',' : '\n');
        }
        readText(seed, text.toString());
        int rowSize = text.length() - 2 * columns;
        int count = Math.min(499, Math.max(1, (65536 + random.nextInt(3000) - 2000) / rowSize));
        for (int i = 0; i < count; i++) {
            checks.due(seed + "row", x.row(0), plain.row(0));
        }
        int number = plain.pick(1);
        checks.due(seed + "pick of " + count, x.pick(1), number);
        askTable(seed, number);
    }

    private void readText(String seed, String text) {
        Checks.put(x, text);
        plain.put(text);
        int number = plain.read();
        checks.due(seed + "read of <" + text + ">", x.read(), number);
        checks.due(seed + "place in <" + text + ">", x.place(), plain.place());
        askTable(seed, number);
    }

    private void pickRows(String seed) {
        int t = random.nextInt(6);
        int count = random.nextInt(random.nextInt(20) == 0 ? 300 : 5);
        int rows = Math.max(1, plain.rows(t)) + (random.nextInt(8) == 0 ? 1 : 0);
        for (int i = 0; i < count; i++) {
            int row = random.nextInt(rows);
            checks.due(seed + "row", x.row(row), plain.row(row));
        }
        int number = plain.pick(t);
        checks.due(seed + "pick", x.pick(t), number);
        askTable(seed, number);
    }

    private void askName(String seed) {
        int t = random.nextInt(4);
        String name = NAMES[random.nextInt(NAMES.length)];
        Checks.put(x, name);
        plain.put(name);
        checks.due(seed + "named <" + name + ">", x.named(t), plain.named(t));
    }

    private void writeTable(String seed) {
        int t = random.nextInt(8);
        int size = plain.write(t);
        checks.due(seed + "write", x.write(t), size);
        int shown = Math.max(size, 1);
        for (int i = -1; i <= shown; i++) {
            checks.due(seed + "out " + i, x.out(i), plain.out(i));
        }
    }

    private void askTable(String seed, int t) {
        String where = seed + "table " + t + " ";
        checks.due(where + "rows", x.rows(t), plain.rows(t));
        checks.due(where + "columns", x.columns(t), plain.columns(t));
        int columns = Math.max(0, plain.columns(t));
        int rows = Math.min(20, Math.max(0, plain.rows(t)));
        for (int c = -1; c <= columns; c++) {
            checks.due(where + "lane " + c, x.lane(t, c), plain.lane(t, c));
            for (int row = -1; row <= rows; row++) {
                askCell(where + "cell " + c + " " + row + " ", t, c, row);
            }
        }
    }

    private void askCell(String where, int t, int c, int row) {
        checks.due(where + "value", x.value(t, c, row), plain.value(t, c, row));
        checks.due(where + "missing", x.missing(t, c, row), plain.missing(t, c, row));
        int size = plain.length(t, c, row);
        checks.due(where + "length", x.length(t, c, row), size);
        for (int i = -1; i <= Math.max(0, size); i++) {
            checks.due(where + "at " + i, x.at(t, c, row, i), plain.at(t, c, row, i));
        }
    }

    private String randomText() {
        int columns = 1 + random.nextInt(random.nextInt(6) == 0 ? 17 : 4);
        int rows = random.nextInt(random.nextInt(30) == 0 ? 600 : 6);
        int first = random.nextInt(random.nextInt(5) == 0 ? NAMES.length : 1 + Math.max(0, 23 - columns));
        StringBuilder text = new StringBuilder();
        for (int c = 0; c < columns; c++) {
            text.append(c == 0 ? "" : ",").append(NAMES[(first + c) % NAMES.length]);
        }
        text.append('\n');
        int from = random.nextInt(WORDS.length);
        int kinds = 1 + random.nextInt(random.nextInt(3) == 0 ? WORDS.length : 6);
        for (int row = 0; row < rows; row++) {
            for (int c = 0; c < columns; c++) {
                text.append(c == 0 ? "" : ",").append(WORDS[(from + c * 3 + random.nextInt(kinds)) % WORDS.length]);
            }
            text.append('\n');
        }
        if (random.nextInt(3) == 0) {
            damage(text);
        }
        return text.length() > 6000 ? text.substring(0, 6000) : text.toString();
    }

    private void damage(StringBuilder text) {
        int at = random.nextInt(text.length());
        char breaker = BREAKERS.charAt(random.nextInt(BREAKERS.length()));
        switch (random.nextInt(4)) {
            case 0 -> text.insert(at, breaker);
            case 1 -> text.deleteCharAt(at);
            case 2 -> text.setCharAt(at, breaker);
            default -> text.setLength(at);
        }
    }
}
