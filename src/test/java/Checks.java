import java.nio.charset.StandardCharsets;

/** Counts wrong answers, and puts texts into an object's tray. */
final class Checks {
    private int asked = 0;
    private int wrong = 0;

    void due(String what, long got, long want) {
        asked++;
        if (got != want) {
            wrong++;
            System.out.println(what + " answered " + got + ", due is " + want);
        }
    }

    void due(String what, boolean got, boolean want) {
        due(what, got ? 1L : 0L, want ? 1L : 0L);
    }

    void due(String what, String got, String want) {
        asked++;
        if (!got.equals(want)) {
            wrong++;
            System.out.println(what + " answered <" + got + ">, due is <" + want + ">");
        }
    }

    /** Ends the test: exit code 1 if an answer was wrong. */
    void finish() {
        System.out.println(asked + " answers, " + wrong + " not as due");
        if (asked == 0 || wrong != 0) {
            System.exit(1);
        }
    }

    /** Makes the tray, which must be empty, hold just this text. */
    static void put(CommaTables x, String text) {
        byte[] bytes = text.getBytes(StandardCharsets.ISO_8859_1);
        for (int i = 0; i < bytes.length; i += 20) {
            x.feed(four(bytes, i), four(bytes, i + 4), four(bytes, i + 8), four(bytes, i + 12), four(bytes, i + 16));
        }
        x.end(bytes.length);
    }

    static int read(CommaTables x, String text) {
        put(x, text);
        return x.read();
    }

    static int named(CommaTables x, int t, String name) {
        put(x, name);
        return x.named(t);
    }

    /** What was written last, asked byte by byte. */
    static String written(CommaTables x) {
        StringBuilder text = new StringBuilder();
        for (int i = 0; x.out(i) >= 0; i++) {
            text.append((char) x.out(i));
        }
        return text.toString();
    }

    private static int four(byte[] bytes, int from) {
        int joined = 0;
        for (int i = from; i < from + 4; i++) {
            joined = joined << 8 | (i < bytes.length ? bytes[i] & 255 : 0);
        }
        return joined;
    }
}
