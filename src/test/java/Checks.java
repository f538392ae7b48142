import java.nio.charset.StandardCharsets;

/** Counts wrong answers, and puts texts into an object's tray. */
final class Checks {
    private int asked = 0;
    private int wrong = 0;

    void due(String what, long got, long want) {
        asked++;
        if (got != want) {
            wrong++;
            System.out.println(what + " answered " + got + ", due is " + want);
        }
    }

    void due(String what, boolean got, boolean want) {
        due(what, got ? 1L : 0L, want ? 1L : 0L);
    }

    void due(String what, String got, String want) {
        asked++;
        if (!got.equals(want)) {
            wrong++;
            System.out.println(what + " answered <" + got + ">, due is <" + want + ">");
        }
    }

    /** Ends the test: exit code 1 if an answer was wrong. */
    void finish() {
        System.out.println(asked + " answers, " + wrong + " not as due");
        if (asked == 0 || wrong != 0) {
            System.exit(1);
        }
    }

    /** Makes the tray, which must be empty, hold just this text. */
    static void put(CommaTables x, String text) {
        int[] fives = fives(text);
        for (int i = 0; i < fives.length; i += 5) {
            x.feed(fives[i], fives[i + 1], fives[i + 2], fives[i + 3], fives[i + 4]);
        }
        x.end(text.length());
    }

    /** The text's bytes as ints, the highest byte first, filled up with 0 to feeds of five. */
    static int[] fives(String text) {
        byte[] bytes = text.getBytes(StandardCharsets.ISO_8859_1);
        int[] ints = new int[(bytes.length + 19) / 20 * 5];
        for (int i = 0; i < bytes.length; i++) {
            ints[i / 4] |= (bytes[i] & 255) << 24 - i % 4 * 8;
        }
        return ints;
    }

    static int read(CommaTables x, String text) {
        put(x, text);
        return x.read();
    }
}
