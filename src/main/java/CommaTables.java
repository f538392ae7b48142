import java.util.Arrays;

/** Tables from texts of lines and commas: read, their lanes guessed, rows picked, and written again. */
public final class CommaTables {
    private static final int NO_TABLE = -14;
    private static final int NOT_THERE = -2;
    private static final int NO_ROOM = -12;
    private static final int FAULTY = -20;
    private static final int REFUSED = -1;
    private static final int NO_FAULT = -1;

    private static final int TABLE_LIMIT = 40;
    private static final int TRAY_LIMIT = 16000;
    private static final int FED_LIMIT = 65536;
    private static final int TEXTS_LIMIT = 65536;
    private static final int WRITTEN_LIMIT = 30000;
    private static final int LINE_LIMIT = 500;
    private static final int ROW_LIMIT = LINE_LIMIT - 1;
    private static final int COLUMN_LIMIT = 16;
    private static final int NAME_SIZE_LIMIT = 20;
    private static final int CELL_SIZE_LIMIT = 40;
    private static final int BYTES_A_FEED = 20;
    private static final int FIRST_ROOM = 64;

    private static final int LANE_BOOLEAN = 0;
    private static final int LANE_INT = 4;
    private static final int LANE_LONG = 5;
    private static final int LANE_DOUBLE = 7;
    private static final int LANE_TEXT = 8;

    private static final int INT_DIGITS = 10;
    private static final int LONG_DIGITS = 19;
    private static final int DOUBLE_DIGITS = 15;

    private static final int LINE_END = 10;
    private static final int BLANK = 32;
    private static final int QUOTE = 34;
    private static final int COMMA = 44;
    private static final int MINUS = 45;
    private static final int DOT = 46;
    private static final int LAST_CODE = 126;

    private final Bytes tray;
    private final Bytes pool;
    private final Parser parser;
    private final Guesser guesser;
    private final TextWriter writer;
    private final Table[] tables;
    private final int[] told;
    private int tableCount;
    private int textsSize;
    private int toldCount;
    private int fedCount;
    private int faultPlace;

    public CommaTables() {
        tray = new Bytes(TRAY_LIMIT);
        pool = new Bytes(FED_LIMIT);
        parser = new Parser(tray, pool);
        guesser = new Guesser(pool);
        writer = new TextWriter(pool);
        tables = new Table[TABLE_LIMIT];
        told = new int[ROW_LIMIT];
        tableCount = 0;
        textsSize = 0;
        toldCount = 0;
        fedCount = 0;
        faultPlace = NO_FAULT;
    }

    public int feed(int a, int b, int c, int d, int e) {
        if (tray.count() + BYTES_A_FEED > TRAY_LIMIT || fedCount + BYTES_A_FEED > FED_LIMIT) {
            return REFUSED;
        }
        fedCount += BYTES_A_FEED;
        tray.addFour(a);
        tray.addFour(b);
        tray.addFour(c);
        tray.addFour(d);
        tray.addFour(e);
        return tray.count();
    }

    public int end(int n) {
        if (n < 0 || n > tray.count()) {
            return REFUSED;
        }
        tray.cut(n);
        return n;
    }

    public int read() {
        int poolBefore = pool.count();
        faultPlace = parser.parse();
        tray.cut(0);
        Table table = faultPlace == NO_FAULT ? parser.toTable() : null;
        int answer = table == null ? FAULTY : keep(table);
        if (table == null || answer == NO_ROOM) {
            pool.cut(poolBefore);
            return answer;
        }
        guesser.guess(table);
        return answer;
    }

    public int place() {
        return faultPlace;
    }

    public int rows(int t) {
        Table table = tableOf(t);
        return table == null ? NO_TABLE : table.rowCount;
    }

    public int columns(int t) {
        Table table = tableOf(t);
        return table == null ? NO_TABLE : table.columnCount;
    }

    public int named(int t) {
        Table table = tableOf(t);
        int found = table == null ? NO_TABLE : columnNamedByTray(table);
        tray.cut(0);
        return found;
    }

    public int lane(int t, int c) {
        Table table = tableOf(t);
        if (table == null) {
            return NO_TABLE;
        }
        return c < 0 || c >= table.columnCount ? NOT_THERE : table.lanes[c];
    }

    public long value(int t, int c, int row) {
        Table table = tableOf(t);
        int index = table == null ? -1 : table.indexOf(c, row);
        return table == null || index < 0 ? 0L : table.values[index];
    }

    public boolean missing(int t, int c, int row) {
        Table table = tableOf(t);
        int index = table == null ? -1 : table.indexOf(c, row);
        return table != null && index >= 0 && Cell.isMissing(table.cells[index]);
    }

    public int length(int t, int c, int row) {
        Table table = tableOf(t);
        if (table == null) {
            return NO_TABLE;
        }
        int index = table.indexOf(c, row);
        return index < 0 ? NOT_THERE : Cell.sizeOf(table.cells[index]);
    }

    public int at(int t, int c, int row, int i) {
        Table table = tableOf(t);
        int index = table == null ? -1 : table.indexOf(c, row);
        if (table == null || index < 0) {
            return -1;
        }
        int cell = table.cells[index];
        return i < 0 || i >= Cell.sizeOf(cell) ? -1 : pool.get(Cell.startOf(cell) + i);
    }

    public int row(int row) {
        if (row < 0 || toldCount >= told.length) {
            return REFUSED;
        }
        told[toldCount] = row;
        toldCount++;
        return toldCount;
    }

    public int pick(int t) {
        int count = toldCount;
        // The rows told are used up whatever comes of them, as the tray is by read().
        toldCount = 0;
        Table table = tableOf(t);
        if (table == null) {
            return NO_TABLE;
        }
        if (!hasAllTold(table, count)) {
            return NOT_THERE;
        }
        Table picked = table.picked(told, count);
        int answer = keep(picked);
        if (answer != NO_ROOM) {
            guesser.guess(picked);
        }
        return answer;
    }

    public int write(int t) {
        Table table = tableOf(t);
        return table == null ? NO_TABLE : writer.writeTable(table);
    }

    public int out(int i) {
        return writer.writtenByte(i);
    }

    private Table tableOf(int t) {
        return t < 1 || t > tableCount || t > tables.length ? null : tables[t - 1];
    }

    /** The table's number, or NO_ROOM for one table too many or texts too long together. */
    private int keep(Table table) {
        // Picked rows count like read ones, though they share their bytes: the limit is of texts.
        int textSize = writer.sizeOfText(table);
        if (tableCount >= tables.length || textSize > TEXTS_LIMIT - textsSize) {
            return NO_ROOM;
        }
        tables[tableCount] = table;
        tableCount++;
        textsSize += textSize;
        return tableCount;
    }

    private int columnNamedByTray(Table table) {
        for (int c = 0; c < table.columnCount; c++) {
            if (trayMeans(table.names[c])) {
                return c;
            }
        }
        return NOT_THERE;
    }

    private boolean trayMeans(int name) {
        int size = Cell.sizeOf(name);
        if (size != tray.count()) {
            return false;
        }
        for (int i = 0; i < size; i++) {
            if (tray.get(i) != pool.get(Cell.startOf(name) + i)) {
                return false;
            }
        }
        return true;
    }

    private boolean hasAllTold(Table table, int count) {
        for (int i = 0; i < count && i < told.length; i++) {
            if (told[i] >= table.rowCount) {
                return false;
            }
        }
        return true;
    }

    /** A row of bytes that grows when it must, so that a new object costs little, up to a limit. */
    private static final class Bytes {
        private final int limit;
        private byte[] held;
        private int count;

        Bytes(int limit) {
            this.limit = limit;
            this.held = new byte[FIRST_ROOM];
            this.count = 0;
        }

        int count() {
            return count;
        }

        int get(int i) {
            return i < 0 || i >= count || i >= held.length ? -1 : held[i] & 255;
        }

        void add(int code) {
            if (count >= limit) {
                return;
            }
            if (count >= held.length) {
                held = Arrays.copyOf(held, held.length * 2);
            }
            held[count] = (byte) code;
            count++;
        }

        void addFour(int codes) {
            add(codes >>> 24);
            add(codes >>> 16);
            add(codes >>> 8);
            add(codes);
        }

        void cut(int size) {
            if (size >= 0 && size < count) {
                count = size;
            }
        }
    }

    /**
     * A cell or name as one int, so that picked tables share the bytes that were read: where its
     * bytes begin in the pool (at most 65536), how many it means (at most 40), whether it was in ".
     */
    private static final class Cell {
        static int of(int start, int size, boolean quoted) {
            return start << 7 | size << 1 | (quoted ? 1 : 0);
        }

        static int startOf(int cell) {
            return cell >>> 7;
        }

        static int sizeOf(int cell) {
            return cell >>> 1 & 63;
        }

        static boolean wasQuoted(int cell) {
            return (cell & 1) != 0;
        }

        static boolean isMissing(int cell) {
            return sizeOf(cell) == 0 && !wasQuoted(cell);
        }

        static boolean means(Bytes pool, int cell, String word) {
            if (sizeOf(cell) != word.length()) {
                return false;
            }
            for (int i = 0; i < word.length(); i++) {
                if (pool.get(startOf(cell) + i) != word.charAt(i)) {
                    return false;
                }
            }
            return true;
        }

        static int compareBytes(Bytes pool, int a, int b) {
            int both = Math.min(sizeOf(a), sizeOf(b));
            for (int i = 0; i < both; i++) {
                int difference = pool.get(startOf(a) + i) - pool.get(startOf(b) + i);
                if (difference != 0) {
                    return difference;
                }
            }
            return sizeOf(a) - sizeOf(b);
        }

        static boolean has(Bytes pool, int cell, int code) {
            return countOf(pool, cell, code) > 0;
        }

        static int countOf(Bytes pool, int cell, int code) {
            int found = 0;
            for (int i = 0; i < sizeOf(cell); i++) {
                if (pool.get(startOf(cell) + i) == code) {
                    found++;
                }
            }
            return found;
        }

        static boolean hasBlankEdge(Bytes pool, int cell) {
            int size = sizeOf(cell);
            int start = startOf(cell);
            return size > 0 && (pool.get(start) == BLANK || pool.get(start + size - 1) == BLANK);
        }
    }

    /** The cells stand line by line; lanes and values are filled in by the guesser. */
    private static final class Table {
        private final int[] names;
        private final int[] cells;
        private final int columnCount;
        private final int rowCount;
        private final int[] lanes;
        private final long[] values;

        Table(int[] names, int[] cells, int rowCount) {
            this.names = names;
            this.cells = cells;
            this.columnCount = names.length;
            this.rowCount = rowCount;
            this.lanes = new int[names.length];
            this.values = new long[cells.length];
        }

        /** Where a cell stands, or -1 if there is none. */
        int indexOf(int c, int row) {
            if (c < 0 || c >= columnCount || row < 0 || row >= rowCount) {
                return -1;
            }
            int index = row * columnCount + c;
            return index < cells.length ? index : -1;
        }

        Table picked(int[] rowNumbers, int count) {
            int[] pickedCells = new int[count * columnCount];
            for (int i = 0; i < count && i < rowNumbers.length; i++) {
                for (int c = 0; c < columnCount; c++) {
                    int index = indexOf(c, rowNumbers[i]);
                    if (index >= 0) {
                        pickedCells[i * columnCount + c] = cells[index];
                    }
                }
            }
            return new Table(names, pickedCells, count);
        }
    }

    /** Reads one table text up to its first fault; the bytes that the cells mean go into the pool. */
    private static final class Parser {
        private final Bytes text;
        private final Bytes pool;
        private final int[] names;
        private int[] cells;
        private int nameCount;
        private int cellCount;
        private int rowCount;
        private int next;
        private int fault;
        // A line's end inside " is a fault, though one may follow the cell.
        private boolean unclosed;

        Parser(Bytes text, Bytes pool) {
            this.text = text;
            this.pool = pool;
            this.names = new int[COLUMN_LIMIT];
            this.cells = new int[FIRST_ROOM];
        }

        /** The place of the first fault, or NO_FAULT. */
        int parse() {
            nameCount = 0;
            cellCount = 0;
            rowCount = 0;
            next = 0;
            fault = NO_FAULT;
            readNames();
            for (int line = 1; line < LINE_LIMIT && goesOn(); line++) {
                readRow();
            }
            if (goesOn()) {
                fault = next;
            }
            return fault;
        }

        Table toTable() {
            return new Table(Arrays.copyOf(names, nameCount), Arrays.copyOf(cells, cellCount), rowCount);
        }

        private boolean goesOn() {
            return fault == NO_FAULT && next < text.count();
        }

        private void readNames() {
            boolean more = true;
            for (int i = 0; i < names.length && more; i++) {
                int first = next;
                int name = readCell(NAME_SIZE_LIMIT);
                if (fault == NO_FAULT && !isNewName(name)) {
                    fault = first;
                }
                if (fault != NO_FAULT) {
                    return;
                }
                names[i] = name;
                nameCount++;
                more = text.get(next) == COMMA;
                next++;
            }
            if (more) {
                fault = next;
            }
        }

        private boolean isNewName(int name) {
            if (Cell.sizeOf(name) == 0) {
                return false;
            }
            for (int i = 0; i < nameCount && i < names.length; i++) {
                if (Cell.compareBytes(pool, names[i], name) == 0) {
                    return false;
                }
            }
            return true;
        }

        private void readRow() {
            boolean more = true;
            for (int i = 0; i < nameCount && more; i++) {
                int cell = readCell(CELL_SIZE_LIMIT);
                if (fault != NO_FAULT) {
                    return;
                }
                addCell(cell);
                more = text.get(next) == COMMA;
                if (!more && i + 1 < nameCount) {
                    fault = next;
                    return;
                }
                next++;
            }
            if (more) {
                fault = next;
                return;
            }
            rowCount++;
        }

        private void addCell(int cell) {
            if (cellCount >= cells.length) {
                cells = Arrays.copyOf(cells, cells.length * 2);
            }
            cells[cellCount] = cell;
            cellCount++;
        }

        /** Leaves next at the , or line's end behind the cell, or sets the fault. */
        private int readCell(int sizeLimit) {
            int first = next;
            int start = pool.count();
            boolean quoted = text.get(first) == QUOTE;
            unclosed = false;
            next = quoted ? endOfQuoted(first + 1) : endOfBare(first);
            int follower = text.get(next);
            if (unclosed || follower != COMMA && follower != LINE_END) {
                fault = next;
                return 0;
            }
            int size = pool.count() - start;
            if (size > sizeLimit) {
                fault = first;
                return 0;
            }
            return Cell.of(start, size, quoted);
        }

        /** The place of the first byte that does not belong to the cell, or the text's length. */
        private int endOfBare(int from) {
            int textSize = text.count();
            for (int i = from; i < textSize; i++) {
                int code = text.get(i);
                if (code == COMMA || code == QUOTE || !isCellCode(code)) {
                    return i;
                }
                pool.add(code);
            }
            return textSize;
        }

        /** The place behind the closing ", or that of a byte that may not stand inside, or the text's length. */
        private int endOfQuoted(int from) {
            int textSize = text.count();
            for (int i = from; i < textSize; i++) {
                int code = text.get(i);
                if (code == QUOTE) {
                    if (text.get(i + 1) != QUOTE) {
                        return i + 1;
                    }
                    i++;
                } else if (!isCellCode(code)) {
                    unclosed = true;
                    return i;
                }
                pool.add(code);
            }
            unclosed = true;
            return textSize;
        }

        private static boolean isCellCode(int code) {
            return code >= BLANK && code <= LAST_CODE;
        }
    }

    /** Finds the lane of each column and, by it, the values of its cells. */
    private static final class Guesser {
        private final Bytes pool;
        private final Numeral numeral;
        private final Words words;

        Guesser(Bytes pool) {
            this.pool = pool;
            this.numeral = new Numeral(pool);
            this.words = new Words(pool);
        }

        void guess(Table table) {
            for (int c = 0; c < table.columnCount; c++) {
                int lane = guessLane(table, c);
                table.lanes[c] = lane;
                if (lane == LANE_TEXT) {
                    words.collect(table, c);
                }
                fillValues(table, c, lane);
            }
        }

        private int guessLane(Table table, int c) {
            int fitting = -1;
            boolean allMissing = true;
            for (int row = 0; row < table.rowCount; row++) {
                int index = table.indexOf(c, row);
                if (index >= 0 && !Cell.isMissing(table.cells[index])) {
                    allMissing = false;
                    fitting &= lanesFitting(table.cells[index]);
                }
            }
            return allMissing ? LANE_TEXT : firstLane(fitting);
        }

        /** The lanes' numbers rise in the order in which they are tried, and text is what is left. */
        private static int firstLane(int fitting) {
            for (int lane = 0; lane < LANE_TEXT; lane++) {
                if ((fitting >> lane & 1) != 0) {
                    return lane;
                }
            }
            return LANE_TEXT;
        }

        /** A set of lanes but text, which always fits: bit n stands for lane n. */
        private int lanesFitting(int cell) {
            if (Cell.wasQuoted(cell)) {
                return 0;
            }
            if (Cell.means(pool, cell, "true") || Cell.means(pool, cell, "false")) {
                return 1 << LANE_BOOLEAN;
            }
            int fitting = 0;
            numeral.scan(cell);
            if (numeral.fitsInt()) {
                fitting |= 1 << LANE_INT;
            }
            if (numeral.fitsLong()) {
                fitting |= 1 << LANE_LONG;
            }
            if (numeral.fitsDouble()) {
                fitting |= 1 << LANE_DOUBLE;
            }
            return fitting;
        }

        private void fillValues(Table table, int c, int lane) {
            for (int row = 0; row < table.rowCount; row++) {
                int index = table.indexOf(c, row);
                if (index >= 0) {
                    table.values[index] = valueOf(table.cells[index], lane);
                }
            }
        }

        private long valueOf(int cell, int lane) {
            if (Cell.isMissing(cell)) {
                return lane == LANE_TEXT ? -1L : 0L;
            }
            if (lane == LANE_TEXT) {
                return words.placeOf(cell);
            }
            if (lane == LANE_BOOLEAN) {
                return Cell.means(pool, cell, "true") ? 1L : 0L;
            }
            numeral.scan(cell);
            return lane == LANE_DOUBLE ? numeral.doubleBits() : numeral.wholeNumber();
        }
    }

    /** What a cell is as a number; one object serves all cells. */
    private static final class Numeral {
        private static final long[] TENS = {
            1L, 10L, 100L, 1000L, 10000L, 100000L, 1000000L, 10000000L, 100000000L, 1000000000L,
            10000000000L, 100000000000L, 1000000000000L, 10000000000000L, 100000000000000L
        };
        private static final long HIDDEN_BIT = 1L << 52;
        private static final int EXPONENT_OF_ONE_UNIT = 1075;
        // 47 empty bits at most before the first of the 53 (10 to the -14 is the least), and some to spare.
        private static final int QUOTIENT_STEPS = 128;

        private final Bytes pool;
        private boolean wellFormed;
        private boolean negative;
        private boolean dotted;
        private int digits;
        private int digitsBehind;
        // Up to 19 digits stay below 2 to the 64, so this is right as an unsigned number.
        private long magnitude;

        Numeral(Bytes pool) {
            this.pool = pool;
        }

        void scan(int cell) {
            int start = Cell.startOf(cell);
            int size = Cell.sizeOf(cell);
            negative = size > 0 && pool.get(start) == MINUS;
            wellFormed = false;
            dotted = false;
            digits = 0;
            digitsBehind = 0;
            magnitude = 0L;
            for (int i = negative ? 1 : 0; i < size; i++) {
                if (!take(pool.get(start + i))) {
                    return;
                }
            }
            wellFormed = digits > 0 && (!dotted || digitsBehind > 0);
        }

        private boolean take(int code) {
            if (code == DOT) {
                boolean fitsHere = !dotted && digits > 0;
                dotted = true;
                return fitsHere;
            }
            if (code < '0' || code > '9') {
                return false;
            }
            digits++;
            digitsBehind += dotted ? 1 : 0;
            magnitude = magnitude * 10L + (code - '0');
            return true;
        }

        boolean fitsInt() {
            return fitsLong() && digits <= INT_DIGITS
                && wholeNumber() >= Integer.MIN_VALUE && wholeNumber() <= Integer.MAX_VALUE;
        }

        boolean fitsLong() {
            return wellFormed && !dotted && digits <= LONG_DIGITS
                && (magnitude >= 0L || negative && magnitude == Long.MIN_VALUE);
        }

        boolean fitsDouble() {
            return wellFormed && digits <= DOUBLE_DIGITS;
        }

        long wholeNumber() {
            return negative ? -magnitude : magnitude;
        }

        /** The nearest double's bits, by long division: the language rules leave no call that tells them. */
        long doubleBits() {
            long sign = negative ? Long.MIN_VALUE : 0L;
            if (magnitude <= 0L || digitsBehind >= TENS.length) {
                return sign;
            }
            long divisor = TENS[digitsBehind];
            if (divisor <= 0L) {
                return sign;
            }
            long quotient = magnitude / divisor;
            long rest = magnitude % divisor;
            int exponent = EXPONENT_OF_ONE_UNIT;
            for (int i = 0; i < QUOTIENT_STEPS && quotient < HIDDEN_BIT; i++) {
                rest *= 2L;
                quotient *= 2L;
                if (rest >= divisor) {
                    quotient++;
                    rest -= divisor;
                }
                exponent--;
            }
            // Never just halfway between two doubles: that takes 54 bits, and 15 digits have 50 at most.
            if (rest * 2L > divisor) {
                quotient++;
            }
            // Adding, not joining, lets a quotient rounded up to 2 to the 53 raise the exponent.
            return sign | ((long) exponent << 52) + (quotient - HIDDEN_BIT);
        }
    }

    /** The unlike words of one column, rising by their bytes; one object serves all columns. */
    private static final class Words {
        private final Bytes pool;
        private final int[] sorted;
        private int count;

        Words(Bytes pool) {
            this.pool = pool;
            this.sorted = new int[ROW_LIMIT];
            this.count = 0;
        }

        void collect(Table table, int c) {
            count = 0;
            for (int row = 0; row < table.rowCount; row++) {
                int index = table.indexOf(c, row);
                if (index >= 0 && !Cell.isMissing(table.cells[index])) {
                    insert(table.cells[index]);
                }
            }
        }

        private void insert(int cell) {
            int place = placeOf(cell);
            boolean known = place < count && Cell.compareBytes(pool, sorted[place], cell) == 0;
            if (known || count >= sorted.length) {
                return;
            }
            System.arraycopy(sorted, place, sorted, place + 1, count - place);
            sorted[place] = cell;
            count++;
        }

        /** How many words are below this one: its number, or where it is to go. */
        int placeOf(int cell) {
            int low = 0;
            int high = count;
            for (int i = 0; i < ROW_LIMIT && low < high; i++) {
                int middle = (low + high) >>> 1;
                if (Cell.compareBytes(pool, sorted[middle], cell) < 0) {
                    low = middle + 1;
                } else {
                    high = middle;
                }
            }
            return low;
        }
    }

    /** Writes a table's text; measures it first, so that a text too long leaves the one before it. */
    private static final class TextWriter {
        private final Bytes pool;
        private final Bytes written;

        TextWriter(Bytes pool) {
            this.pool = pool;
            this.written = new Bytes(WRITTEN_LIMIT);
        }

        int writeTable(Table table) {
            if (sizeOfText(table) > WRITTEN_LIMIT) {
                return NO_ROOM;
            }
            written.cut(0);
            for (int c = 0; c < table.columnCount; c++) {
                addCell(table.names[c], nameNeedsQuotes(table.names[c]));
                addSeparator(c, table.columnCount);
            }
            for (int row = 0; row < table.rowCount; row++) {
                addRow(table, row);
            }
            return written.count();
        }

        int writtenByte(int i) {
            return written.get(i);
        }

        int sizeOfText(Table table) {
            int size = table.names.length + table.cells.length;
            for (int name : table.names) {
                size += sizeOfCell(name, nameNeedsQuotes(name));
            }
            for (int cell : table.cells) {
                size += sizeOfCell(cell, cellNeedsQuotes(cell));
            }
            return size;
        }

        private int sizeOfCell(int cell, boolean inQuotes) {
            int size = Cell.sizeOf(cell);
            return inQuotes ? size + 2 + Cell.countOf(pool, cell, QUOTE) : size;
        }

        private boolean nameNeedsQuotes(int name) {
            return Cell.has(pool, name, QUOTE) || Cell.has(pool, name, COMMA) || Cell.hasBlankEdge(pool, name);
        }

        private boolean cellNeedsQuotes(int cell) {
            return Cell.wasQuoted(cell) || Cell.hasBlankEdge(pool, cell);
        }

        private void addRow(Table table, int row) {
            for (int c = 0; c < table.columnCount; c++) {
                int index = table.indexOf(c, row);
                if (index >= 0) {
                    addCell(table.cells[index], cellNeedsQuotes(table.cells[index]));
                }
                addSeparator(c, table.columnCount);
            }
        }

        private void addSeparator(int c, int columnCount) {
            written.add(c + 1 < columnCount ? COMMA : LINE_END);
        }

        private void addCell(int cell, boolean inQuotes) {
            if (inQuotes) {
                written.add(QUOTE);
            }
            for (int i = 0; i < Cell.sizeOf(cell); i++) {
                int code = pool.get(Cell.startOf(cell) + i);
                written.add(code);
                if (inQuotes && code == QUOTE) {
                    written.add(QUOTE);
                }
            }
            if (inQuotes) {
                written.add(QUOTE);
            }
        }
    }
}
