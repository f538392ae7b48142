import java.util.ArrayList;
import java.util.HashSet;
import java.util.List;
import java.util.Set;
import java.util.TreeSet;
import java.util.regex.Matcher;
import java.util.regex.Pattern;

/** The document once more, with the Java library and without a thought for room: what random runs are held against. */
final class PlainTables {
    private static final Pattern BARE = Pattern.compile("[ -!#-+\\--~]*");
    private static final Pattern QUOTED = Pattern.compile("\"(?:[ -!#-~]|\"\")*+\"");
    private static final Pattern OPENED = Pattern.compile("\"(?:[ -!#-~]|\"\")*+");

    record Cell(String meaning, boolean quoted) {
        boolean missing() {
            return meaning.isEmpty() && !quoted;
        }
    }

    record Table(List<String> names, List<List<Cell>> rows) {
    }

    private static final class Fault extends Exception {
        private static final long serialVersionUID = 1L;
        private final int place;

        Fault(int place) {
            this.place = place;
        }
    }

    private final List<Table> tables = new ArrayList<>();
    private final List<Integer> told = new ArrayList<>();
    private String tray = "";
    private String written = "";
    private int place = -1;

    void put(String text) {
        tray = text;
    }

    int read() {
        String text = tray;
        tray = "";
        place = -1;
        try {
            return add(parse(text));
        } catch (Fault fault) {
            place = fault.place;
            return -20;
        }
    }

    int place() {
        return place;
    }

    private int add(Table table) {
        int together = textOf(table).length();
        for (Table kept : tables) {
            together += textOf(kept).length();
        }
        if (tables.size() == 40 || together > 65536) {
            return -12;
        }
        tables.add(table);
        return tables.size();
    }

    private static Table parse(String text) throws Fault {
        List<String> names = new ArrayList<>();
        List<List<Cell>> rows = new ArrayList<>();
        int at = 0;
        for (int line = 0; line == 0 || at < text.length(); line++) {
            if (line == 500) {
                throw new Fault(at);
            }
            List<Cell> cells = new ArrayList<>();
            boolean more = true;
            while (more) {
                if (cells.size() == (line == 0 ? 16 : names.size())) {
                    throw new Fault(at);
                }
                int end = endOfCell(text, at);
                Cell cell = cellOf(text.substring(at, end));
                look(cell, line == 0, names, at);
                if (line == 0) {
                    names.add(cell.meaning());
                }
                cells.add(cell);
                more = text.charAt(end) == ',';
                if (!more && cells.size() < names.size()) {
                    throw new Fault(end);
                }
                at = end + 1;
            }
            if (line > 0) {
                rows.add(cells);
            }
        }
        return new Table(names, rows);
    }

    private static int endOfCell(String text, int at) throws Fault {
        boolean quoted = text.startsWith("\"", at);
        Matcher whole = (quoted ? QUOTED : BARE).matcher(text).region(at, text.length());
        if (!whole.lookingAt()) {
            Matcher opened = OPENED.matcher(text).region(at, text.length());
            throw new Fault(opened.lookingAt() ? opened.end() : at);
        }
        int end = whole.end();
        if (end == text.length() || text.charAt(end) != ',' && text.charAt(end) != '\n') {
            throw new Fault(end);
        }
        return end;
    }

    private static Cell cellOf(String raw) {
        boolean quoted = raw.startsWith("\"");
        return new Cell(quoted ? raw.substring(1, raw.length() - 1).replace("\"\"", "\"") : raw, quoted);
    }

    private static void look(Cell cell, boolean isName, List<String> names, int at) throws Fault {
        int size = cell.meaning().length();
        if (size > (isName ? 20 : 40) || isName && (size == 0 || names.contains(cell.meaning()))) {
            throw new Fault(at);
        }
    }

    private Table table(int t) {
        return t < 1 || t > tables.size() ? null : tables.get(t - 1);
    }

    private Cell cell(int t, int c, int row) {
        Table table = table(t);
        boolean there = table != null && c >= 0 && c < table.names().size() && row >= 0 && row < table.rows().size();
        return there ? table.rows().get(row).get(c) : null;
    }

    int rows(int t) {
        return table(t) == null ? -14 : table(t).rows().size();
    }

    int columns(int t) {
        return table(t) == null ? -14 : table(t).names().size();
    }

    int named(int t) {
        String name = tray;
        tray = "";
        if (table(t) == null) {
            return -14;
        }
        int c = table(t).names().indexOf(name);
        return c < 0 ? -2 : c;
    }

    private List<Cell> present(Table table, int c) {
        List<Cell> cells = new ArrayList<>();
        for (List<Cell> row : table.rows()) {
            if (!row.get(c).missing()) {
                cells.add(row.get(c));
            }
        }
        return cells;
    }

    int lane(int t, int c) {
        Table table = table(t);
        if (table == null) {
            return -14;
        }
        if (c < 0 || c >= table.names().size()) {
            return -2;
        }
        List<Cell> cells = present(table, c);
        for (int lane : new int[] {0, 4, 5, 7}) {
            if (!cells.isEmpty() && cells.stream().allMatch(cell -> !cell.quoted() && fits(cell.meaning(), lane))) {
                return lane;
            }
        }
        return 8;
    }

    private static boolean fits(String word, int lane) {
        return switch (lane) {
            case 0 -> word.equals("true") || word.equals("false");
            case 4 -> word.matches("-?[0-9]{1,10}") && inBounds(word, Integer.MIN_VALUE, Integer.MAX_VALUE);
            case 5 -> word.matches("-?[0-9]{1,19}") && inBounds(word, Long.MIN_VALUE, Long.MAX_VALUE);
            default -> word.matches("-?[0-9]+(\\.[0-9]+)?") && word.replaceAll("[^0-9]", "").length() <= 15;
        };
    }

    private static boolean inBounds(String word, long low, long high) {
        java.math.BigInteger number = new java.math.BigInteger(word);
        return number.compareTo(java.math.BigInteger.valueOf(low)) >= 0
            && number.compareTo(java.math.BigInteger.valueOf(high)) <= 0;
    }

    long value(int t, int c, int row) {
        Cell cell = cell(t, c, row);
        if (cell == null) {
            return 0;
        }
        int lane = lane(t, c);
        if (cell.missing()) {
            return lane == 8 ? -1 : 0;
        }
        return switch (lane) {
            case 0 -> cell.meaning().equals("true") ? 1 : 0;
            case 4, 5 -> Long.parseLong(cell.meaning());
            case 7 -> Double.doubleToLongBits(Double.parseDouble(cell.meaning()));
            default -> numberOfWord(table(t), c, cell.meaning());
        };
    }

    private long numberOfWord(Table table, int c, String word) {
        Set<String> words = new HashSet<>();
        present(table, c).forEach(cell -> words.add(cell.meaning()));
        return new TreeSet<>(words).headSet(word).size();
    }

    boolean missing(int t, int c, int row) {
        return cell(t, c, row) != null && cell(t, c, row).missing();
    }

    int length(int t, int c, int row) {
        return table(t) == null ? -14 : cell(t, c, row) == null ? -2 : cell(t, c, row).meaning().length();
    }

    int at(int t, int c, int row, int i) {
        Cell cell = cell(t, c, row);
        return cell == null || i < 0 || i >= cell.meaning().length() ? -1 : cell.meaning().charAt(i);
    }

    int row(int row) {
        if (row < 0 || told.size() == 499) {
            return -1;
        }
        told.add(row);
        return told.size();
    }

    int pick(int t) {
        List<Integer> numbers = new ArrayList<>(told);
        told.clear();
        Table table = table(t);
        if (table == null) {
            return -14;
        }
        List<List<Cell>> rows = new ArrayList<>();
        for (int number : numbers) {
            if (number >= table.rows().size()) {
                return -2;
            }
            rows.add(table.rows().get(number));
        }
        return add(new Table(table.names(), rows));
    }

    int write(int t) {
        Table table = table(t);
        if (table == null) {
            return -14;
        }
        String text = textOf(table);
        if (text.length() > 30000) {
            return -12;
        }
        written = text;
        return written.length();
    }

    private static String textOf(Table table) {
        List<String> names = new ArrayList<>();
        for (String name : table.names()) {
            boolean odd = name.contains("\"") || name.contains(",") || !name.equals(name.strip());
            names.add(odd ? quote(name) : name);
        }
        StringBuilder text = new StringBuilder(String.join(",", names)).append('\n');
        for (List<Cell> row : table.rows()) {
            List<String> cells = new ArrayList<>();
            for (Cell cell : row) {
                boolean odd = cell.quoted() || !cell.meaning().equals(cell.meaning().strip());
                cells.add(odd ? quote(cell.meaning()) : cell.meaning());
            }
            text.append(String.join(",", cells)).append('\n');
        }
        return text.toString();
    }

    private static String quote(String word) {
        return "\"" + word.replace("\"", "\"\"") + "\"";
    }

    int out(int i) {
        return i < 0 || i >= written.length() ? -1 : written.charAt(i);
    }
}
