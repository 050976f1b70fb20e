/**
 * Reasons why a shape can't be covered by pieces: weights modulo a prime, sizes that don't add up,
 * and the word along the border. All rows are made in constructors and used again by every call.
 */
public final class ColourSums {
    private static final int MAX_SIDE = 6;
    private static final int MAX_PIECES = 6;
    private static final int MAX_SQUARES = 6;
    private static final int MAX_CELLS = 36;
    private static final int FRAME_SIDE = 4;
    private static final int MAX_OWN = 99;
    private static final int MIN_RUN_MODULUS = 2;
    private static final int MAX_RUN_MODULUS = 9;

    private final int width;
    private final int height;
    private final Form[] forms;
    private final int[] ownWeights;
    private final int[] foundWeights;
    private final Equations equations;
    private final Outline outline;
    private int formCount;
    private long shape;
    private boolean found;

    public ColourSums(int width, int height) {
        this.width = Math.max(1, Math.min(MAX_SIDE, width));
        this.height = Math.max(1, Math.min(MAX_SIDE, height));
        int cells = this.width * this.height;
        forms = new Form[MAX_PIECES];
        for (int p = 0; p < MAX_PIECES; p++) {
            forms[p] = new Form(this.width, this.height);
        }
        ownWeights = new int[cells];
        foundWeights = new int[cells];
        equations = new Equations(cells);
        outline = new Outline(this.width, this.height);
    }

    public boolean cell(int x, int y, boolean on) throws ArrayIndexOutOfBoundsException {
        int c = numberOfCell(x, y);
        if (inShape(c) == on) {
            return false;
        }
        shape ^= 1L << c;
        found = false;
        return true;
    }

    public int piece() {
        if (formCount >= MAX_PIECES) {
            return -1;
        }
        found = false;
        formCount++;
        return formCount - 1;
    }

    public boolean square(int piece, int x, int y)
            throws ArrayIndexOutOfBoundsException, IllegalArgumentException {
        Form form = formOf(piece);
        if (x < 0 || x >= FRAME_SIDE || y < 0 || y >= FRAME_SIDE) {
            throw new IllegalArgumentException("x or y is not 0 .. 3");
        }
        if (!form.take(x, y)) {
            return false;
        }
        found = false;
        return true;
    }

    public int placements(int piece) throws ArrayIndexOutOfBoundsException {
        Form form = formOf(piece);
        form.prepare(shape);
        return form.setCount;
    }

    public int placement(int piece, int k, int i) throws ArrayIndexOutOfBoundsException {
        Form form = formOf(piece);
        form.prepare(shape);
        if (k < 0 || k >= form.setCount) {
            return -1;
        }
        return cellOfSet(form.sets[k], i);
    }

    public boolean sizes() {
        long reached = 1L;
        for (int total = 1; total <= MAX_CELLS; total++) {
            if (reachable(reached, total)) {
                reached |= 1L << total;
            }
        }
        return (reached >> Long.bitCount(shape) & 1L) != 0L;
    }

    public int colour(int n) {
        if (!isColourPrime(n)) {
            return -1;
        }
        equations.begin(n);
        for (int p = 0; p < formCount; p++) {
            addPlacementSums(forms[p]);
        }
        if (!equations.add(shape, 1)) {
            return 0;
        }
        for (int c = 0; c < foundWeights.length; c++) {
            foundWeights[c] = equations.leastValue(c);
        }
        found = true;
        return 1;
    }

    public int weight(int x, int y) throws ArrayIndexOutOfBoundsException {
        int c = numberOfCell(x, y);
        if (!found || !inShape(c)) {
            return -1;
        }
        return foundWeights[c];
    }

    public int text(int i) {
        int lineLength = width + 1;
        if (!found || i < 0 || i >= lineLength * height) {
            return -1;
        }
        int x = i % lineLength;
        if (x == width) {
            return ';';
        }
        int c = width * (i / lineLength) + x;
        return inShape(c) ? 'a' + foundWeights[c] : '.';
    }

    public boolean own(int x, int y, int v) throws ArrayIndexOutOfBoundsException {
        int c = numberOfCell(x, y);
        if (v < -MAX_OWN || v > MAX_OWN) {
            return false;
        }
        ownWeights[c] = v;
        return true;
    }

    public int sum() {
        return ownOver(shape);
    }

    public int bad(int n) {
        if (n < 2) {
            return -1;
        }
        int count = 0;
        for (int p = 0; p < formCount; p++) {
            Form form = forms[p];
            form.prepare(shape);
            for (int k = 0; k < form.setCount; k++) {
                if (ownOver(form.sets[k]) % n != 0) {
                    count++;
                }
            }
        }
        return count;
    }

    public boolean proves(int n) {
        if (n < 2) {
            return false;
        }
        return ownOver(shape) % n != 0 && bad(n) == 0;
    }

    public int border(int i) {
        outline.trace(shape);
        if (i < 0 || i >= outline.length) {
            return -1;
        }
        return outline.letters[i];
    }

    public int runs(int m) {
        if (m < MIN_RUN_MODULUS || m > MAX_RUN_MODULUS) {
            return -1;
        }
        outline.trace(shape);
        outline.fold(m);
        return outline.runCount;
    }

    public int run(int m, int k) {
        if (k < 0 || k >= runs(m)) {
            return -1;
        }
        return outline.axes[k] + 2 * outline.amounts[k];
    }

    private int numberOfCell(int x, int y) {
        if (x < 0 || x >= width || y < 0 || y >= height) {
            throw new ArrayIndexOutOfBoundsException("there is no such cell");
        }
        return width * y + x;
    }

    private Form formOf(int number) {
        if (number < 0 || number >= formCount) {
            throw new ArrayIndexOutOfBoundsException("there is no such piece");
        }
        return forms[number];
    }

    private boolean inShape(int c) {
        return (shape >> c & 1L) != 0L;
    }

    /** Whether some piece's size leads to the total from a smaller one that is reached. */
    private boolean reachable(long reached, int total) {
        for (int p = 0; p < formCount; p++) {
            int size = forms[p].size();
            if (size > 0 && size <= total && (reached >> (total - size) & 1L) != 0L) {
                return true;
            }
        }
        return false;
    }

    private void addPlacementSums(Form form) {
        form.prepare(shape);
        for (int k = 0; k < form.setCount; k++) {
            equations.add(form.sets[k], 0);
        }
    }

    private int ownOver(long set) {
        int total = 0;
        for (int c = 0; c < ownWeights.length; c++) {
            if ((set >> c & 1L) != 0L) {
                total += ownWeights[c];
            }
        }
        return total;
    }

    private static int cellOfSet(long set, int i) {
        if (i < 0 || i >= Long.bitCount(set)) {
            return -1;
        }
        long rest = set;
        for (int dropped = 0; dropped < i; dropped++) {
            rest &= rest - 1L;
        }
        return Long.bitCount((rest & -rest) - 1L);
    }

    private static boolean isColourPrime(int n) {
        return n == 2 || n == 3 || n == 5 || n == 7 || n == 11 || n == 13;
    }

    /** A piece: its squares as bits of a 4 by 4 frame, and its placements for the shape last seen. */
    private static final class Form {
        // Most are those of a piece with 8 ways to lie and the least box for it, 2 by 3: each way has
        // 20 places on a 6 by 6 grid. Smaller boxes have fewer ways, larger ones fewer places.
        private static final int MAX_SETS = 160;
        private static final int WAYS = 8;
        private static final int FRAME = 16;
        private static final int FIRST_ROW = 0xF;
        private static final int FIRST_COLUMN = 0x1111;

        private final int gridWidth;
        private final int gridHeight;
        private final int[] ways;
        private final long[] sets;
        private int squares;
        private int wayCount;
        private int setCount;
        private long shapeSeen;

        Form(int gridWidth, int gridHeight) {
            this.gridWidth = gridWidth;
            this.gridHeight = gridHeight;
            ways = new int[WAYS];
            sets = new long[MAX_SETS];
        }

        int size() {
            return Integer.bitCount(squares);
        }

        boolean take(int x, int y) {
            int bit = 1 << (FRAME_SIDE * y + x);
            if ((squares & bit) != 0 || size() >= MAX_SQUARES) {
                return false;
            }
            squares |= bit;
            // The sets are made anew for the next shape: the empty one, as if seen last, has none.
            shapeSeen = 0L;
            setCount = 0;
            findWays();
            return true;
        }

        void prepare(long shape) {
            if (shapeSeen == shape) {
                return;
            }
            shapeSeen = shape;
            setCount = 0;
            for (int w = 0; w < wayCount; w++) {
                placeWay(ways[w]);
            }
        }

        private void findWays() {
            wayCount = 0;
            int frame = squares;
            for (int turn = 0; turn < WAYS; turn++) {
                if (turn == WAYS / 2) {
                    frame = turnedOver(frame);
                }
                keepWay(pushedToCorner(frame));
                frame = quarterTurned(frame);
            }
        }

        private void keepWay(int frame) {
            for (int w = 0; w < wayCount; w++) {
                if (ways[w] == frame) {
                    return;
                }
            }
            if (wayCount < ways.length) {
                ways[wayCount] = frame;
                wayCount++;
            }
        }

        private void placeWay(int frame) {
            int freeX = gridWidth - columnsOf(frame);
            int freeY = gridHeight - rowsOf(frame);
            if (freeX < 0 || freeY < 0) {
                return;
            }
            long corner = cellsInCorner(frame);
            for (int y = 0; y <= freeY; y++) {
                for (int x = 0; x <= freeX; x++) {
                    long set = corner << (gridWidth * y + x);
                    if ((set & ~shapeSeen) == 0L) {
                        insert(set);
                    }
                }
            }
        }

        private void insert(long set) {
            if (setCount >= sets.length) {
                return;
            }
            int at = setCount;
            while (at > 0 && sets[at - 1] > set) {
                sets[at] = sets[at - 1];
                at--;
            }
            sets[at] = set;
            setCount++;
        }

        private long cellsInCorner(int frame) {
            long set = 0L;
            for (int s = 0; s < FRAME; s++) {
                if ((frame >> s & 1) != 0) {
                    set |= 1L << (gridWidth * (s / FRAME_SIDE) + s % FRAME_SIDE);
                }
            }
            return set;
        }

        private static int columnsOf(int frame) {
            int columns = 0;
            for (int x = 0; x < FRAME_SIDE; x++) {
                if ((frame & (FIRST_COLUMN << x)) != 0) {
                    columns = x + 1;
                }
            }
            return columns;
        }

        private static int rowsOf(int frame) {
            int rows = 0;
            for (int y = 0; y < FRAME_SIDE; y++) {
                if ((frame & (FIRST_ROW << (FRAME_SIDE * y))) != 0) {
                    rows = y + 1;
                }
            }
            return rows;
        }

        private static int pushedToCorner(int frame) {
            int pushed = frame;
            for (int step = 1; step < FRAME_SIDE; step++) {
                if ((pushed & FIRST_ROW) == 0) {
                    pushed >>= FRAME_SIDE;
                }
                if ((pushed & FIRST_COLUMN) == 0) {
                    pushed >>= 1;
                }
            }
            return pushed;
        }

        private static int quarterTurned(int frame) {
            int turned = 0;
            for (int s = 0; s < FRAME; s++) {
                if ((frame >> s & 1) != 0) {
                    int x = FRAME_SIDE - 1 - s / FRAME_SIDE;
                    int y = s % FRAME_SIDE;
                    turned |= 1 << (FRAME_SIDE * y + x);
                }
            }
            return turned;
        }

        private static int turnedOver(int frame) {
            int over = 0;
            for (int s = 0; s < FRAME; s++) {
                if ((frame >> s & 1) != 0) {
                    int x = FRAME_SIDE - 1 - s % FRAME_SIDE;
                    over |= 1 << (FRAME_SIDE * (s / FRAME_SIDE) + x);
                }
            }
            return over;
        }
    }

    /**
     * Equations over the weights modulo a prime. Each row kept leads by its LAST cell, with 1, and no
     * other row has that cell; so a leading cell hangs on earlier cells alone, all other cells are free,
     * and the least weights are those with 0 in every free cell.
     */
    private static final class Equations {
        private final int cells;
        private final int[][] rows;
        private final boolean[] leads;
        private final int[] work;
        private int modulus;

        Equations(int cells) {
            this.cells = cells;
            rows = new int[cells][cells + 1];
            leads = new boolean[cells];
            work = new int[cells + 1];
            modulus = 2;
        }

        void begin(int prime) {
            modulus = Math.max(2, prime);
            for (int c = 0; c < cells; c++) {
                leads[c] = false;
            }
        }

        /** The weights over the set add up to due; false when that goes against the rows kept. */
        boolean add(long set, int due) {
            for (int c = 0; c < cells; c++) {
                work[c] = (int) (set >> c & 1L);
            }
            work[cells] = due;
            for (int c = 0; c < cells; c++) {
                if (leads[c] && work[c] != 0) {
                    subtractRow(c, work[c], work);
                }
            }
            int lead = lastCellOfWork();
            if (lead < 0) {
                return work[cells] == 0;
            }
            keepWork(lead);
            return true;
        }

        int leastValue(int c) {
            if (c < 0 || c >= cells || !leads[c]) {
                return 0;
            }
            return rows[c][cells];
        }

        private void keepWork(int lead) {
            int[] row = rows[lead];
            int factor = inverse(work[lead]);
            for (int c = 0; c <= cells; c++) {
                row[c] = work[c] * factor % modulus;
            }
            leads[lead] = true;
            for (int c = lead + 1; c < cells; c++) {
                if (leads[c] && rows[c][lead] != 0) {
                    subtractRow(lead, rows[c][lead], rows[c]);
                }
            }
        }

        // Behind its leading cell a row holds nothing but what is due.
        private void subtractRow(int lead, int times, int[] from) {
            int[] row = rows[lead];
            int factor = modulus - times;
            for (int c = 0; c <= lead; c++) {
                from[c] = (from[c] + factor * row[c]) % modulus;
            }
            from[cells] = (from[cells] + factor * row[cells]) % modulus;
        }

        private int lastCellOfWork() {
            for (int c = cells - 1; c >= 0; c--) {
                if (work[c] != 0) {
                    return c;
                }
            }
            return -1;
        }

        private int inverse(int value) {
            for (int k = 1; k < modulus; k++) {
                if (k * value % modulus == 1) {
                    return k;
                }
            }
            return 1;
        }
    }

    /** The border of the shape last seen, its word, and the word's runs for the modulus last asked. */
    private static final class Outline {
        // Every side of a cell on a 6 by 6 grid: 7 lines of 6 sides, each way.
        private static final int MAX_SIDES = 84;
        private static final int TURN_RIGHT = 1;
        private static final int TURN_LEFT = 3;
        // By letter: the step, and the cells at the right and the left hand as seen from the corner.
        private static final int[] STEP_X = {1, 0, -1, 0};
        private static final int[] STEP_Y = {0, 1, 0, -1};
        private static final int[] RIGHT_X = {0, -1, -1, 0};
        private static final int[] RIGHT_Y = {0, 0, -1, -1};
        private static final int[] LEFT_X = {0, 0, -1, -1};
        private static final int[] LEFT_Y = {-1, 0, 0, -1};

        private final int gridWidth;
        private final int gridHeight;
        private final int[] letters;
        private final int[] axes;
        private final int[] amounts;
        private int length;
        private int runCount;
        private long shapeSeen;

        Outline(int gridWidth, int gridHeight) {
            this.gridWidth = gridWidth;
            this.gridHeight = gridHeight;
            letters = new int[MAX_SIDES];
            axes = new int[MAX_SIDES];
            amounts = new int[MAX_SIDES];
        }

        void trace(long shape) {
            if (shapeSeen == shape) {
                return;
            }
            shapeSeen = shape;
            length = 0;
            if (shape != 0L && gridWidth > 0) {
                int least = Long.bitCount((shape & -shape) - 1L);
                follow(least % gridWidth, least / gridWidth);
            }
        }

        void fold(int modulus) {
            runCount = 0;
            for (int i = 0; i < length; i++) {
                int letter = letters[i];
                foldLetter(letter & 1, letter < 2 ? 1 : modulus - 1, modulus);
            }
        }

        private void follow(int startX, int startY) {
            int x = startX;
            int y = startY;
            int letter = 0;
            for (int step = 0; step < MAX_SIDES; step++) {
                letters[step] = letter;
                length = step + 1;
                x += STEP_X[letter];
                y += STEP_Y[letter];
                letter = nextLetter(x, y, letter);
                if (x == startX && y == startY && letter == 0) {
                    return;
                }
            }
        }

        private int nextLetter(int x, int y, int letter) {
            int right = (letter + TURN_RIGHT) & 3;
            if (mayGo(x, y, right)) {
                return right;
            }
            return mayGo(x, y, letter) ? letter : (letter + TURN_LEFT) & 3;
        }

        private boolean mayGo(int x, int y, int letter) {
            return has(x + RIGHT_X[letter], y + RIGHT_Y[letter])
                    && !has(x + LEFT_X[letter], y + LEFT_Y[letter]);
        }

        private boolean has(int x, int y) {
            return x >= 0 && x < gridWidth && y >= 0 && y < gridHeight
                    && (shapeSeen >> (gridWidth * y + x) & 1L) != 0L;
        }

        // What is left does not hang on the order in which runs go: so each letter is folded as it comes.
        private void foldLetter(int axis, int amount, int modulus) {
            int last = runCount - 1;
            if (last < 0 || axes[last] != axis) {
                pushRun(axis, amount);
                return;
            }
            int total = amounts[last] + amount;
            if (total == modulus) {
                runCount = last;
                return;
            }
            amounts[last] = total > modulus ? total - modulus : total;
        }

        private void pushRun(int axis, int amount) {
            if (runCount < MAX_SIDES) {
                axes[runCount] = axis;
                amounts[runCount] = amount;
                runCount++;
            }
        }
    }
}
