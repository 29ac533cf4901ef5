import java.util.ArrayList;
import java.util.HashSet;
import java.util.List;
import java.util.NoSuchElementException;
import java.util.Set;
import java.util.TreeSet;

/**
 * A second house, written straight from the document and with no regard to LANGUAGE.md: catalogues, states and
 * entries are found anew from all that happened, each time that they are asked for.
 */
final class ModelHouse {
    private static final class Cell {
        int depth;
        int burr;
        int trace;
        char cover = '-'; // 'h' and 's' ground, 'x' stop, 'g' grain that protects
        int ink;
    }

    private static final class Plate {
        int hardness;
        Cell[][] cells; // by rows
        boolean isFaced;
        boolean isCancelled;
        boolean isCopy;
        boolean isInked;
        int colour;
        int stiffness;
        int oil;
        int tone;
        List<Boolean> changes = new ArrayList<>(); // for each pull: was there a change before it
        boolean isChanged;

        int columns() {
            return cells[0].length;
        }

        int rows() {
            return cells.length;
        }

        boolean has(int x, int y) {
            return y >= 0 && y < rows() && x >= 0 && x < columns();
        }

        String shape() {
            StringBuilder told = new StringBuilder();
            for (Cell[] row : cells) {
                for (Cell cell : row) {
                    told.append(cell.depth).append('/').append(cell.burr).append('/').append(cell.trace).append(' ');
                }
            }
            return told.toString();
        }

        int state() {
            int state = 1;
            for (int i = 1; i < changes.size(); i++) {
                state += changes.get(i) ? 1 : 0;
            }
            return state + (isChanged && !changes.isEmpty() ? 1 : 0);
        }

        int inkSum() {
            int sum = 0;
            for (Cell[] row : cells) {
                for (Cell cell : row) {
                    sum += cell.ink;
                }
            }
            return sum;
        }

        int countCover(String covers) {
            int many = 0;
            for (Cell[] row : cells) {
                for (Cell cell : row) {
                    many += covers.indexOf(cell.cover) >= 0 ? 1 : 0;
                }
            }
            return many;
        }
    }

    private static final class Pull {
        int plate;
        int state;
        boolean isFromCancelled;
        int[][] put;
    }

    private static final class Sheet {
        List<Integer> pulls = new ArrayList<>();
        int[][] dark;
        int[][] colour;
        int rowsAtFirst;
        int sort;
        int sizing;
        int lit;
        List<Integer> marks = new ArrayList<>();
    }

    private static final class Entry {
        int edition;
        int sheet;
        char kind;
    }

    private final List<Plate> plates = new ArrayList<>();
    private final List<Pull> allPulls = new ArrayList<>();
    private final List<Sheet> sheets = new ArrayList<>();
    private final List<int[]> editions = new ArrayList<>(); // plate, size, 1 if closed
    private final List<Entry> entries = new ArrayList<>();
    private final int[][] baths = {{5, 20, 0}, {5, 20, 0}, {5, 20, 0}};
    private int pressure = 5;
    private long z = 1;

    private static void need(boolean is, RuntimeException otherwise) {
        if (!is) {
            throw otherwise;
        }
    }

    private static void within(int number, int least, int most) {
        need(number >= least && number <= most, new IllegalArgumentException());
    }

    private static void among(char letter, String letters) {
        need(letters.indexOf(letter) >= 0, new IllegalArgumentException());
    }

    private static <T> T at(List<T> list, int n) {
        need(n >= 0 && n < list.size(), new IndexOutOfBoundsException());
        return list.get(n);
    }

    private static void workable(Plate p) {
        need(!p.isFaced && !p.isCancelled, new UnsupportedOperationException());
    }

    public int plate(char metal, int columns, int rows) {
        among(metal, "zcs");
        within(columns, 2, 8);
        within(rows, 2, 8);
        need(plates.size() < 5, new IllegalStateException());
        Plate p = new Plate();
        p.hardness = metal == 'z' ? 2 : metal == 'c' ? 3 : 5;
        p.cells = new Cell[rows][columns];
        for (Cell[] row : p.cells) {
            for (int x = 0; x < columns; x++) {
                row[x] = new Cell();
            }
        }
        plates.add(p);
        return plates.size() - 1;
    }

    public int work(int plate, char tool, int x, int y, int toX, int toY, int pressure) {
        Plate p = at(plates, plate);
        need(p.has(x, y) && p.has(toX, toY), new IndexOutOfBoundsException());
        among(tool, "nbosu");
        within(pressure, 1, 9);
        int wide = toX - x;
        int high = toY - y;
        need(wide == 0 || high == 0 || wide == high || wide == -high, new IllegalArgumentException());
        workable(p);
        int many = 0;
        while (true) {
            String before = p.shape();
            use(p, p.cells[y][x], tool, pressure);
            p.isChanged |= !before.equals(p.shape());
            many++;
            if (x == toX && y == toY) {
                return many;
            }
            x += Integer.signum(toX - x);
            y += Integer.signum(toY - y);
        }
    }

    private static void use(Plate p, Cell c, char tool, int pressure) {
        boolean isCovered = "hsx".indexOf(c.cover) >= 0;
        if ("nbo".indexOf(tool) >= 0 && isCovered) {
            c.cover = '-';
            if (tool == 'n') {
                return;
            }
        }
        boolean wasDeep = c.depth > 0;
        int more = tool == 'n' ? pressure / p.hardness : tool == 'b' ? pressure * 2 / p.hardness + 1 : tool == 'o' ? 1
            : tool == 's' ? -pressure : -(pressure / 2);
        c.depth = Math.min(99, Math.max(0, c.depth + more));
        if (tool == 'n' && c.burr < pressure) {
            c.burr = pressure;
        } else if (tool == 'o' && c.burr < 5) {
            c.burr = 5;
        } else if (tool == 's') {
            c.burr = 0;
            c.trace = Math.min(9, c.trace + (wasDeep ? 1 : 0));
        } else if (tool == 'u') {
            c.burr /= 2;
        }
    }

    public int ground(int plate, boolean isSoft) {
        Plate p = at(plates, plate);
        workable(p);
        int many = 0;
        for (Cell[] row : p.cells) {
            for (Cell cell : row) {
                cell.cover = isSoft ? 's' : 'h';
                many++;
            }
        }
        return many;
    }

    public int stop(int plate, int x, int y, int toX, int toY) {
        Plate p = at(plates, plate);
        need(p.has(x, y) && p.has(toX, toY), new IndexOutOfBoundsException());
        workable(p);
        for (int row = 0; row < p.rows(); row++) {
            for (int column = 0; column < p.columns(); column++) {
                if ((row - y) * (row - toY) <= 0 && (column - x) * (column - toX) <= 0) {
                    p.cells[row][column].cover = 'x';
                }
            }
        }
        return p.countCover("x");
    }

    public int grain(int plate, int size) {
        Plate p = at(plates, plate);
        within(size, 1, 3);
        workable(p);
        for (int y = 0; y < p.rows(); y++) {
            for (int x = 0; x < p.columns(); x++) {
                Cell c = p.cells[y][x];
                if ("hsx".indexOf(c.cover) < 0) {
                    c.cover = (x + y + y) % (size + 1) == 0 ? 'g' : '-';
                }
            }
        }
        return p.countCover("g");
    }

    public int clean(int plate) {
        Plate p = at(plates, plate);
        int many = p.countCover("hsxg");
        for (Cell[] row : p.cells) {
            for (Cell cell : row) {
                cell.cover = '-';
            }
        }
        return many;
    }

    public int bath(int bath, int strength, int heat) {
        within(bath, 0, 2);
        within(strength, 1, 9);
        within(heat, 0, 40);
        int use = baths[bath][2];
        baths[bath] = new int[] {strength, heat, 0};
        return use;
    }

    public int bite(int plate, int bath, int minutes) {
        Plate p = at(plates, plate);
        within(bath, 0, 2);
        within(minutes, 1, 99);
        workable(p);
        int[] b = baths[bath];
        int left = b[0] - b[2] / 100;
        int takes = minutes * (left < 1 ? 1 : left) * (b[1] + 10) / (100 * p.hardness);
        String before = p.shape();
        for (Cell[] row : p.cells) {
            for (Cell cell : row) {
                int more = cell.cover == '-' ? takes : cell.cover == 's' ? takes / 2 : cell.cover == 'g' ? takes / 3 : 0;
                if (cell.cover == 'h') {
                    z = z * 48271 % 2147483647L;
                    more = z % 32 == 0 ? 1 : 0;
                }
                cell.depth = Math.min(99, cell.depth + more);
            }
        }
        for (int y = 0; y < p.rows() && takes >= 10; y++) {
            for (int x = 0; x < p.columns(); x++) {
                boolean isBeside = false;
                for (int[] step : new int[][] {{0, 1}, {1, 0}, {0, -1}, {-1, 0}}) {
                    int nearX = x + step[0];
                    int nearY = y + step[1];
                    isBeside |= p.has(nearX, nearY) && p.cells[nearY][nearX].cover == '-';
                }
                Cell c = p.cells[y][x];
                if (isBeside && "hsx".indexOf(c.cover) >= 0 && c.depth < 99) {
                    c.depth++;
                }
            }
        }
        p.isChanged |= !before.equals(p.shape());
        b[2] += p.countCover("-") * minutes;
        return takes;
    }

    public int cell(int plate, int x, int y, char what) {
        Plate p = at(plates, plate);
        need(p.has(x, y), new IndexOutOfBoundsException());
        among(what, "dbtic");
        Cell c = p.cells[y][x];
        int cover = "-hxg".indexOf(c.cover == 's' ? 'h' : c.cover);
        return what == 'd' ? c.depth : what == 'b' ? c.burr : what == 't' ? c.trace : what == 'i' ? c.ink : cover;
    }

    public int ink(int plate, int colour, int stiffness, int oil, int warm) {
        Plate p = at(plates, plate);
        within(colour, 0, 5);
        within(stiffness, 1, 9);
        within(oil, 0, 9);
        within(warm, 0, 9);
        p.isInked = true;
        p.colour = colour;
        p.stiffness = stiffness - warm < 1 ? 1 : stiffness - warm;
        p.oil = oil;
        p.tone = 20;
        for (Cell[] row : p.cells) {
            for (Cell cell : row) {
                cell.ink = Math.min(90, cell.depth + cell.burr + cell.burr);
            }
        }
        return p.inkSum();
    }

    public int wipe(int plate, char by) {
        Plate p = at(plates, plate);
        among(by, "rhp");
        need(p.isInked, new UnsupportedOperationException());
        p.tone = by == 'r' ? 6 : by == 'h' ? 2 : 0;
        for (Cell[] row : p.cells) {
            for (Cell cell : row) {
                cell.ink = by == 'r' && cell.ink > 5 * p.stiffness ? 5 * p.stiffness : cell.ink;
            }
        }
        return p.inkSum();
    }

    public int press(int pressure) {
        within(pressure, 1, 9);
        int before = this.pressure;
        this.pressure = pressure;
        return before;
    }

    public int pull(int plate, int sort, int sizing, int damp) {
        Plate p = at(plates, plate);
        within(sort, 0, 9);
        within(sizing, 0, 9);
        within(damp, 0, 9);
        need(p.isInked, new UnsupportedOperationException());
        need(allPulls.size() < 60, new IllegalStateException());
        Sheet s = new Sheet();
        s.sort = sort;
        s.sizing = sizing;
        s.rowsAtFirst = p.rows();
        s.dark = new int[p.rows()][p.columns()];
        s.colour = new int[p.rows()][p.columns()];
        for (int[] row : s.colour) {
            java.util.Arrays.fill(row, -1);
        }
        sheets.add(s);
        print(plate, s, damp);
        return sheets.size() - 1;
    }

    public int over(int plate, int sheet, int damp) {
        Plate p = at(plates, plate);
        Sheet s = at(sheets, sheet);
        within(damp, 0, 9);
        need(p.isInked && s.dark.length == p.rows() && s.dark[0].length == p.columns()
            && s.dark.length == s.rowsAtFirst && entryOf(sheet) == null, new UnsupportedOperationException());
        need(allPulls.size() < 60, new IllegalStateException());
        print(plate, s, damp);
        return allPulls.size() - 1;
    }

    private void print(int plate, Sheet s, int damp) {
        Plate p = plates.get(plate);
        Pull pull = new Pull();
        pull.plate = plate;
        pull.state = p.state();
        pull.isFromCancelled = p.isCancelled;
        pull.put = put(p, s.sizing, damp);
        for (int y = 0; y < p.rows(); y++) {
            for (int x = 0; x < p.columns(); x++) {
                if (s.dark[y][x] < pull.put[y][x]) {
                    s.dark[y][x] = pull.put[y][x];
                    s.colour[y][x] = p.colour;
                }
                p.cells[y][x].ink = 0;
            }
        }
        s.pulls.add(allPulls.size());
        allPulls.add(pull);
        p.isInked = false;
        p.changes.add(p.isChanged);
        p.isChanged = false;
        for (int i = 0; i < p.rows() * p.columns() && !p.isFaced; i++) {
            Cell c = p.cells[i / p.columns()][i % p.columns()];
            c.burr = Math.max(0, c.burr - 1);
            c.depth = Math.max(0, c.depth - (p.changes.size() % (4 * p.hardness) == 0 ? 1 : 0));
        }
    }

    private int[][] put(Plate p, int sizing, int damp) {
        int[][] wet = new int[p.rows()][p.columns()];
        int[][] bled = new int[p.rows()][p.columns()];
        int[][] slipped = new int[p.rows()][p.columns()];
        for (int y = 0; y < p.rows(); y++) {
            for (int x = 0; x < p.columns(); x++) {
                wet[y][x] = Math.min(99, p.cells[y][x].ink * pressure * (damp + 1) / 40 + p.tone);
            }
        }
        for (int y = 0; y < p.rows(); y++) {
            for (int x = 0; x < p.columns(); x++) {
                bled[y][x] = wet[y][x];
                for (int[] step : new int[][] {{0, 1}, {1, 0}, {0, -1}, {-1, 0}}) {
                    if (p.oil - sizing >= 3 && p.has(x + step[0], y + step[1])) {
                        bled[y][x] = Math.max(bled[y][x], wet[y + step[1]][x + step[0]] / 3);
                    }
                }
            }
        }
        for (int y = 0; y < p.rows(); y++) {
            slipped[y] = bled[pressure > 7 && damp == 0 && y > 0 ? y - 1 : y].clone();
        }
        return slipped;
    }

    public boolean face(int plate, boolean is) {
        Plate p = at(plates, plate);
        need(!p.isCancelled, new UnsupportedOperationException());
        boolean had = p.isFaced;
        String before = p.shape();
        for (Cell[] row : p.cells) {
            for (Cell cell : row) {
                cell.depth = is && cell.depth == 1 ? 0 : cell.depth;
            }
        }
        p.isChanged |= !before.equals(p.shape());
        p.isFaced = is;
        return had;
    }

    public int pulls(int plate) {
        at(plates, plate);
        int many = 0;
        for (Pull pull : allPulls) {
            many += pull.plate == plate ? 1 : 0;
        }
        return many;
    }

    public int state(int plate) {
        return at(plates, plate).state();
    }

    public int of(int sheet, char what) {
        Sheet s = at(sheets, sheet);
        among(what, "pnskroml");
        int first = s.pulls.get(0);
        Set<Integer> on = new HashSet<>();
        for (int pull : s.pulls) {
            on.add(allPulls.get(pull).plate);
        }
        int[] told = {allPulls.get(first).plate, first, allPulls.get(first).state, on.size(), s.dark.length, s.sort,
            s.marks.size(), s.lit};
        return told["pnskroml".indexOf(what)];
    }

    public int dark(int sheet, int x, int y) {
        Sheet s = at(sheets, sheet);
        need(y >= 0 && y < s.dark.length && x >= 0 && x < s.dark[0].length, new IndexOutOfBoundsException());
        return s.dark[y][x];
    }

    public int colour(int sheet, int x, int y) {
        dark(sheet, x, y);
        return sheets.get(sheet).colour[y][x];
    }

    public int edition(int plate, int size) {
        Plate p = at(plates, plate);
        within(size, 1, 20);
        need(!p.isCancelled, new UnsupportedOperationException());
        for (int[] edition : editions) {
            need(edition[0] != plate || edition[2] == 1, new UnsupportedOperationException());
        }
        need(editions.size() < 4, new IllegalStateException());
        editions.add(new int[] {plate, size, 0});
        return editions.size() - 1;
    }

    private Entry entryOf(int sheet) {
        for (Entry entry : entries) {
            if (entry.sheet == sheet) {
                return entry;
            }
        }
        return null;
    }

    private List<Integer> entriesOf(int edition, char kind) {
        List<Integer> found = new ArrayList<>();
        for (Entry entry : entries) {
            if (entry.edition == edition && entry.kind == kind) {
                found.add(entry.sheet);
            }
        }
        return found;
    }

    public int enter(int edition, int sheet, char kind) {
        int[] e = at(editions, edition);
        Sheet s = at(sheets, sheet);
        among(kind, "eat");
        need(of(sheet, 'p') == e[0] && s.pulls.size() == 1 && entryOf(sheet) == null,
            new UnsupportedOperationException());
        for (int numbered : entriesOf(edition, 'e')) {
            need(kind != 'e' || of(numbered, 's') == of(sheet, 's'), new UnsupportedOperationException());
            need(kind != 't' || of(numbered, 's') > of(sheet, 's'), new UnsupportedOperationException());
        }
        need(e[2] == 0, new IllegalStateException());
        need(kind != 'e' || entered(edition, 'e') < e[1], new IllegalStateException());
        need(kind != 'a' || entered(edition, 'a') < e[1] / 10 + 1, new IllegalStateException());
        Entry entry = new Entry();
        entry.edition = edition;
        entry.sheet = sheet;
        entry.kind = kind;
        entries.add(entry);
        return entered(edition, kind);
    }

    public int entered(int edition, char kind) {
        at(editions, edition);
        among(kind, "eat");
        return entriesOf(edition, kind).size();
    }

    public int number(int sheet) {
        at(sheets, sheet);
        Entry entry = entryOf(sheet);
        need(entry != null && entry.kind == 'e', new NoSuchElementException());
        return entriesOf(entry.edition, 'e').indexOf(sheet) + 1;
    }

    public int close(int edition) {
        int[] e = at(editions, edition);
        need(e[2] == 0, new IllegalStateException());
        e[2] = 1;
        Plate p = plates.get(e[0]);
        p.isCancelled = true;
        String before = p.shape();
        for (int i = 0; p.has(i, i); i++) {
            p.cells[i][i].depth = 60;
        }
        p.isChanged |= !before.equals(p.shape());
        return entered(edition, 'e') + entered(edition, 'a') + entered(edition, 't');
    }

    public boolean isCancelled(int plate) {
        return at(plates, plate).isCancelled;
    }

    public boolean isRestrike(int sheet) {
        return allPulls.get(at(sheets, sheet).pulls.get(0)).isFromCancelled;
    }

    public int light(int sheet, int much) {
        Sheet s = at(sheets, sheet);
        within(much, 1, 50);
        for (int y = 0; y < s.dark.length; y++) {
            for (int x = 0; x < s.dark[0].length; x++) {
                boolean isFast = s.colour[y][x] == 0 || s.colour[y][x] == 1;
                s.dark[y][x] = Math.max(0, s.dark[y][x] - (isFast ? much / 2 : much));
            }
        }
        s.lit += much;
        return s.lit;
    }

    public int trim(int sheet, int rows) {
        Sheet s = at(sheets, sheet);
        need(rows >= 1 && rows < s.dark.length, new IllegalArgumentException());
        s.dark = java.util.Arrays.copyOf(s.dark, s.dark.length - rows);
        return s.dark.length;
    }

    public int mark(int sheet, int owner) {
        Sheet s = at(sheets, sheet);
        within(owner, 1, 99);
        need(s.marks.size() < 5, new IllegalStateException());
        s.marks.add(owner);
        return s.marks.size();
    }

    public int markAt(int sheet, int index) {
        Sheet s = at(sheets, sheet);
        need(index >= 0 && index < s.marks.size(), new NoSuchElementException());
        return s.marks.get(index);
    }

    public int copy(int sheet) {
        Sheet s = at(sheets, sheet);
        need(s.dark.length == s.rowsAtFirst, new UnsupportedOperationException());
        int made = plate('z', s.dark[0].length, s.dark.length);
        plates.get(made).isCopy = true;
        for (int y = 0; y < s.dark.length; y++) {
            for (int x = 0; x < s.dark[0].length; x++) {
                plates.get(made).cells[y][x].depth = s.dark[y][x] / 2;
            }
        }
        return made;
    }

    public boolean isCopy(int plate) {
        return at(plates, plate).isCopy;
    }

    private List<Integer> candidates(int sheet, int plate) {
        Sheet s = at(sheets, sheet);
        at(plates, plate);
        List<Integer> found = new ArrayList<>();
        for (int i = 0; i < allPulls.size(); i++) {
            int[][] put = allPulls.get(i).put;
            boolean may = allPulls.get(i).plate == plate && put[0].length == s.dark[0].length
                && put.length >= s.dark.length;
            for (int y = 0; may && y < s.dark.length; y++) {
                for (int x = 0; may && x < s.dark[0].length; x++) {
                    may = s.dark[y][x] + s.lit >= put[y][x] && (s.pulls.size() > 1 || s.dark[y][x] <= put[y][x]);
                }
            }
            if (may) {
                found.add(i);
            }
        }
        return found;
    }

    public int mayBe(int sheet, int plate) {
        return candidates(sheet, plate).size();
    }

    public int bound(int sheet, int plate, boolean isLast) {
        List<Integer> found = candidates(sheet, plate);
        need(!found.isEmpty(), new NoSuchElementException());
        return found.get(isLast ? found.size() - 1 : 0);
    }

    public int surely(int sheet, int plate) {
        Set<Integer> states = new TreeSet<>();
        for (int pull : candidates(sheet, plate)) {
            states.add(allPulls.get(pull).state);
        }
        need(states.size() == 1, new NoSuchElementException());
        return states.iterator().next();
    }

    public boolean isSurely(int sheet, int plate) {
        boolean is = mayBe(sheet, plate) > 0;
        for (int other = 0; other < plates.size(); other++) {
            is &= other == plate || mayBe(sheet, other) == 0;
        }
        return is;
    }

    public int price(int sheet) {
        Sheet s = at(sheets, sheet);
        Entry entry = entryOf(sheet);
        int price = entry == null ? 10 : entry.kind == 'e' ? 20 : entry.kind == 'a' ? 30 : 40;
        if (isRestrike(sheet) || plates.get(of(sheet, 'p')).isCopy) {
            price /= 4;
        }
        return Math.max(0, price + 2 * s.marks.size() - s.lit / 10);
    }

    public int seed(int z) {
        within(z, 1, 2147483646);
        int before = (int) this.z;
        this.z = z;
        return before;
    }

    public float enteredShare() {
        need(!sheets.isEmpty(), new ArithmeticException());
        return (float) entries.size() / (float) sheets.size();
    }

    public double meanDepth(int plate) {
        Plate p = at(plates, plate);
        int sum = 0;
        for (Cell[] row : p.cells) {
            for (Cell cell : row) {
                sum += cell.depth;
            }
        }
        return (double) sum / (double) (p.rows() * p.columns());
    }

    public long checksum(int plate) {
        long sum = 7;
        for (Cell[] row : at(plates, plate).cells) {
            for (Cell cell : row) {
                sum = sum * 31 + cell.depth + 100 * cell.burr + 1000 * cell.trace;
            }
        }
        return sum;
    }

    /** By its own rules a house is always true. */
    public boolean isTrue() {
        return true;
    }
}
