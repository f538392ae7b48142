import java.util.Random;

/** Promise 10 for doubles: the bits are those of the nearest double, for every count of digits before and behind. */
public final class DoubleBitsTest {
    public static void main(String[] args) {
        Checks checks = new Checks();
        Random random = new Random(7);
        for (int round = 0; round < 400; round++) {
            CommaTables x = new CommaTables();
            String[] words = new String[200];
            StringBuilder text = new StringBuilder("n\n0.5\n");
            for (int i = 0; i < words.length; i++) {
                words[i] = randomWord(random);
                text.append(words[i]).append('\n');
            }
            checks.due("read", Checks.read(x, text.toString()), 1);
            checks.due("lane", x.lane(1, 0), 7);
            for (int i = 0; i < words.length; i++) {
                long want = Double.doubleToLongBits(Double.parseDouble(words[i]));
                checks.due("value of " + words[i], x.value(1, 0, i + 1), want);
            }
        }
        checks.finish();
    }

    private static String randomWord(Random random) {
        int digits = 1 + random.nextInt(15);
        int behind = random.nextInt(digits);
        boolean sparse = random.nextInt(4) == 0;
        StringBuilder word = new StringBuilder(random.nextBoolean() ? "-" : "");
        for (int i = 0; i < digits; i++) {
            if (i == digits - behind) {
                word.append('.');
            }
            boolean zero = sparse && i < digits - 1;
            word.append(zero ? 0 : random.nextInt(10));
        }
        return word.toString();
    }
}
