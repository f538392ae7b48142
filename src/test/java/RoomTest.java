import java.lang.management.ManagementFactory;

/**
 * The room that the dearest runs take. An element takes a byte or more, and an object sixteen, so a run that
 * takes less than 7.3 million bytes stays below 7.3 million elements and 600,000 objects.
 */
public final class RoomTest {
    private static final long ROOM = 7_300_000L;

    public static void main(String[] args) {
        Checks checks = new Checks();
        Runnable[] runs = {RoomTest::manyCells, RoomTest::manyPicks, RoomTest::manyTables, RoomTest::manyObjects,
            RoomTest::longLife};
        for (int i = 0; i < runs.length; i++) {
            runs[i].run();
            long before = taken();
            runs[i].run();
            long bytes = taken() - before;
            System.out.println("run " + i + " took " + bytes + " bytes");
            checks.due("run " + i + " took " + bytes + " bytes; less than the room", bytes < ROOM, true);
        }
        checks.finish();
    }

    private static long taken() {
        return ((com.sun.management.ThreadMXBean) ManagementFactory.getThreadMXBean()).getThreadAllocatedBytes(
            Thread.currentThread().getId());
    }

    private static String wideText(int rows) {
        return "a,b,c,d,e,f,g,h,i,j,k,l,m,n,o,p\n" + (",".repeat(15) + "\n").repeat(rows);
    }

    /** As many cells as 512 calls can read, and then the rest as picked rows. */
    private static void manyCells() {
        CommaTables x = new CommaTables();
        Checks.read(x, wideText(499));
        for (int i = 0; i < 100; i++) {
            x.row(i);
        }
        x.pick(1);
        x.write(1);
    }

    private static void manyPicks() {
        CommaTables x = new CommaTables();
        Checks.read(x, wideText(1));
        for (int i = 0; i < 480; i++) {
            x.row(0);
            if (i % 13 == 0) {
                x.pick(1);
            }
        }
        x.write(1);
    }

    private static void manyTables() {
        CommaTables x = new CommaTables();
        for (int t = 0; t < 45; t++) {
            Checks.read(x, wideText(8));
        }
    }

    private static void manyObjects() {
        for (int i = 0; i < 512; i++) {
            CommaTables x = new CommaTables();
            x.feed(0x610A0000, 0, 0, 0, 0);
        }
    }

    /** Beyond the 512 calls: all limits of the document reached, which must not fail either. */
    private static void longLife() {
        CommaTables x = new CommaTables();
        for (int i = 0; i < 4000; i++) {
            x.feed(0x41414141, 0x41414141, 0x41414141, 0x41414141, 0x41414141);
            if (i % 799 == 0) {
                x.read();
            }
        }
        x = new CommaTables();
        Checks.read(x, wideText(499));
        for (int i = 0; i < 499 * 45; i++) {
            x.row(i % 499);
            if (i % 499 == 498) {
                x.pick(1);
            }
        }
    }
}
