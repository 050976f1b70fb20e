import java.util.ArrayList;
import java.util.HashSet;
import java.util.LinkedHashSet;
import java.util.List;
import java.util.Set;
import java.util.TreeSet;

/** The document's words done in another, slower way than the class does them, to compare with. */
final class PlainColourSums {
    private final int w;
    private final int h;
    private final Set<Integer> shape = new TreeSet<>();
    private final List<Set<Integer>> pieces = new ArrayList<>();
    private final int[] own = new int[36];
    private int[] colouring = null;

    PlainColourSums(int width, int height) {
        w = width < 1 ? 1 : width > 6 ? 6 : width;
        h = height < 1 ? 1 : height > 6 ? 6 : height;
    }

    private int needCell(int x, int y) {
        if (x < 0 || y < 0 || x >= w || y >= h) {
            throw new ArrayIndexOutOfBoundsException("no such one");
        }
        return w * y + x;
    }

    private Set<Integer> needPiece(int piece) {
        if (piece < 0 || piece >= pieces.size()) {
            throw new ArrayIndexOutOfBoundsException("no such one");
        }
        return pieces.get(piece);
    }

    boolean cell(int x, int y, boolean on) {
        int c = needCell(x, y);
        boolean changed = on ? shape.add(c) : shape.remove(c);
        if (changed) {
            colouring = null;
        }
        return changed;
    }

    int piece() {
        if (pieces.size() == 6) {
            return -1;
        }
        colouring = null;
        pieces.add(new LinkedHashSet<>());
        return pieces.size() - 1;
    }

    boolean square(int piece, int x, int y) {
        Set<Integer> squares = needPiece(piece);
        if (x < 0 || x > 3 || y < 0 || y > 3) {
            throw new IllegalArgumentException("no such square");
        }
        if (squares.size() == 6 || !squares.add(10 * y + x)) {
            return false;
        }
        colouring = null;
        return true;
    }

    private TreeSet<Long> setsOf(int piece) {
        Set<Integer> squares = needPiece(piece);
        TreeSet<Long> sets = new TreeSet<>();
        int[][] turns = {{1, 0, 0, 1}, {0, 1, 1, 0}, {-1, 0, 0, 1}, {0, -1, 1, 0}, {1, 0, 0, -1}, {0, 1, -1, 0},
            {-1, 0, 0, -1}, {0, -1, -1, 0}};
        for (int[] t : turns) {
            for (int moveX = -9; moveX <= 9; moveX++) {
                for (int moveY = -9; moveY <= 9; moveY++) {
                    long set = movedSet(squares, t, moveX, moveY);
                    if (set != 0) {
                        sets.add(set);
                    }
                }
            }
        }
        return sets;
    }

    private long movedSet(Set<Integer> squares, int[] t, int moveX, int moveY) {
        long set = 0;
        for (int s : squares) {
            int x = t[0] * (s % 10) + t[1] * (s / 10) + moveX;
            int y = t[2] * (s % 10) + t[3] * (s / 10) + moveY;
            if (x < 0 || y < 0 || x >= w || y >= h || !shape.contains(w * y + x)) {
                return 0;
            }
            set |= 1L << (w * y + x);
        }
        return set;
    }

    private static List<Integer> cellsOf(long set) {
        List<Integer> cells = new ArrayList<>();
        for (int c = 0; c < 64; c++) {
            if ((set >>> c & 1) == 1) {
                cells.add(c);
            }
        }
        return cells;
    }

    int placements(int piece) {
        return setsOf(piece).size();
    }

    int placement(int piece, int k, int i) {
        List<Long> sets = new ArrayList<>(setsOf(piece));
        if (k < 0 || k >= sets.size()) {
            return -1;
        }
        List<Integer> cells = cellsOf(sets.get(k));
        return i < 0 || i >= cells.size() ? -1 : cells.get(i);
    }

    boolean sizes() {
        return canFill(shape.size(), 0);
    }

    private boolean canFill(int rest, int from) {
        if (rest == 0) {
            return true;
        }
        if (from == pieces.size()) {
            return false;
        }
        int size = pieces.get(from).size();
        for (int taken = 0; taken <= rest; taken += Math.max(1, size)) {
            if (canFill(rest - taken, from + 1)) {
                return true;
            }
            if (size == 0) {
                break;
            }
        }
        return false;
    }

    int colour(int n) {
        if (!List.of(2, 3, 5, 7, 11, 13).contains(n)) {
            return -1;
        }
        List<int[]> rows = new ArrayList<>();
        for (int p = 0; p < pieces.size(); p++) {
            for (long set : setsOf(p)) {
                addRow(rows, rowOf(cellsOf(set), 0), n);
            }
        }
        if (!addRow(rows, rowOf(new ArrayList<>(shape), 1), n)) {
            return 0;
        }
        colouring = new int[36];
        for (int c : shape) {
            colouring[c] = leastFor(rows, c, n);
        }
        return 1;
    }

    // The least value for the cell that leaves solutions; it stays fixed among the rows.
    private int leastFor(List<int[]> rows, int c, int n) {
        for (int v = 0; v < n; v++) {
            if (addRow(rows, rowOf(List.of(c), v), n)) {
                return v;
            }
        }
        throw new IllegalStateException("no value for cell " + c);
    }

    private static int[] rowOf(List<Integer> cells, int due) {
        int[] row = new int[37];
        for (int c : cells) {
            row[c] = 1;
        }
        row[36] = due;
        return row;
    }

    // Plain elimination by FIRST cells; false, and no row more, when there is no solution any more.
    private static boolean addRow(List<int[]> rows, int[] row, int n) {
        for (int[] kept : rows) {
            int first = firstOf(kept);
            while (row[first] != 0) {
                for (int c = 0; c <= 36; c++) {
                    row[c] = (row[c] + kept[c]) % n;
                }
            }
        }
        int first = firstOf(row);
        if (first == 36) {
            return false;
        }
        if (first < 36) {
            rows.add(row);
        }
        return true;
    }

    private static int firstOf(int[] row) {
        int c = 0;
        while (c < 37 && row[c] == 0) {
            c++;
        }
        return c;
    }

    int weight(int x, int y) {
        int c = needCell(x, y);
        return colouring == null || !shape.contains(c) ? -1 : colouring[c];
    }

    int text(int i) {
        if (colouring == null) {
            return -1;
        }
        StringBuilder all = new StringBuilder();
        for (int y = 0; y < h; y++) {
            for (int x = 0; x < w; x++) {
                int weight = weight(x, y);
                all.append(weight < 0 ? '.' : "abcdefghijklm".charAt(weight));
            }
            all.append(';');
        }
        return i < 0 || i >= all.length() ? -1 : all.charAt(i);
    }

    boolean own(int x, int y, int v) {
        int c = needCell(x, y);
        if (v < -99 || v > 99) {
            return false;
        }
        own[c] = v;
        return true;
    }

    private boolean isMultiple(Iterable<Integer> cells, int n) {
        long sum = 0;
        for (int c : cells) {
            sum += own[c];
        }
        return Math.floorMod(sum, (long) n) == 0;
    }

    int sum() {
        int sum = 0;
        for (int c : shape) {
            sum += own[c];
        }
        return sum;
    }

    int bad(int n) {
        if (n < 2) {
            return -1;
        }
        int bad = 0;
        for (int p = 0; p < pieces.size(); p++) {
            for (long set : setsOf(p)) {
                bad += isMultiple(cellsOf(set), n) ? 0 : 1;
            }
        }
        return bad;
    }

    boolean proves(int n) {
        return n >= 2 && bad(n) == 0 && !isMultiple(shape, n);
    }

    private boolean has(int x, int y) {
        return x >= 0 && y >= 0 && x < w && y < h && shape.contains(w * y + x);
    }

    // All sides with a cell at the right hand and none at the left: corner x, corner y, letter.
    private Set<List<Integer>> sides() {
        Set<List<Integer>> sides = new HashSet<>();
        for (int c : shape) {
            int x = c % w;
            int y = c / w;
            if (!has(x, y - 1)) {
                sides.add(List.of(x, y, 0));
            }
            if (!has(x + 1, y)) {
                sides.add(List.of(x + 1, y, 1));
            }
            if (!has(x, y + 1)) {
                sides.add(List.of(x + 1, y + 1, 2));
            }
            if (!has(x - 1, y)) {
                sides.add(List.of(x, y + 1, 3));
            }
        }
        return sides;
    }

    List<Integer> word() {
        List<Integer> word = new ArrayList<>();
        if (shape.isEmpty()) {
            return word;
        }
        Set<List<Integer>> sides = sides();
        int least = shape.iterator().next();
        List<Integer> first = List.of(least % w, least / w, 0);
        List<Integer> now = first;
        do {
            int letter = now.get(2);
            word.add(letter);
            int x = now.get(0) + (letter == 0 ? 1 : letter == 2 ? -1 : 0);
            int y = now.get(1) + (letter == 1 ? 1 : letter == 3 ? -1 : 0);
            List<Integer> next = null;
            for (int turn : new int[] {1, 0, 3}) {
                List<Integer> side = List.of(x, y, (letter + turn) % 4);
                if (next == null && sides.contains(side)) {
                    next = side;
                }
            }
            now = next;
        } while (!now.equals(first));
        return word;
    }

    int border(int i) {
        List<Integer> word = word();
        return i < 0 || i >= word.size() ? -1 : word.get(i);
    }

    // Runs as pairs of axis and amount, rewritten as the document tells it, one at a time.
    private List<int[]> left(int m) {
        List<int[]> runs = new ArrayList<>();
        for (int letter : word()) {
            runs.add(new int[] {letter % 2, letter < 2 ? 1 : -1});
        }
        boolean changed = true;
        while (changed) {
            changed = false;
            for (int i = 1; i < runs.size(); i++) {
                if (runs.get(i)[0] == runs.get(i - 1)[0]) {
                    runs.get(i - 1)[1] += runs.remove(i)[1];
                    i--;
                }
            }
            for (int i = runs.size() - 1; i >= 0 && !changed; i--) {
                runs.get(i)[1] = Math.floorMod(runs.get(i)[1], m);
                if (runs.get(i)[1] == 0) {
                    runs.remove(i);
                    changed = true;
                }
            }
        }
        return runs;
    }

    int runs(int m) {
        return m < 2 || m > 9 ? -1 : left(m).size();
    }

    int run(int m, int k) {
        if (m < 2 || m > 9) {
            return -1;
        }
        List<int[]> runs = left(m);
        return k < 0 || k >= runs.size() ? -1 : runs.get(k)[0] + 2 * runs.get(k)[1];
    }
}
