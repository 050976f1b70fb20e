/** Promises 1, 2, 11 and 12: each sentence that names a boundary case has a test of its own. */
public final class BoundaryCellsTest {
    private static final int[] FAR = {-1000, 1000, Integer.MIN_VALUE, Integer.MIN_VALUE + 1, Integer.MAX_VALUE};

    private interface CellCall {
        Object of(int x, int y);
    }

    public static void main(String[] args) {
        Check.sentence("1: Width and height 1 .. 6", BoundaryCellsTest::everySize);
        Check.sentence("1: less counts as 1", BoundaryCellsTest::lessCountsAsOne);
        Check.sentence("1: more as 6", BoundaryCellsTest::moreCountsAsSix);
        Check.sentence("Terms: (x, y) is cell W y + x", BoundaryCellsTest::numbersOfCells);
        Check.sentence("Terms: THE SHAPE is some of them (at first none)", BoundaryCellsTest::atFirstNone);
        Check.sentence("2: A cell is of THE SHAPE, or not: true", BoundaryCellsTest::cellComesAndGoes);
        Check.sentence("2: false when it is so already (it is)", BoundaryCellsTest::cellIsOnAlready);
        Check.sentence("2: false when it is so already (it is not)", BoundaryCellsTest::cellIsOffAlready);
        Check.sentence("2: there is no such cell", BoundaryCellsTest::cellRefusesMissingCells);
        Check.sentence("2: a refused call changes nothing", BoundaryCellsTest::refusedCellChangesNothing);
        Check.sentence("11: 0 at first", BoundaryCellsTest::ownIsZeroAtFirst);
        Check.sentence("11: it stays when the cell is not of THE SHAPE", BoundaryCellsTest::ownStays);
        Check.sentence("11: ... and may be given then", BoundaryCellsTest::ownIsGivenOutsideTheShape);
        Check.sentence("11: v is -99 .. 99", BoundaryCellsTest::ownTakesUpTo99);
        Check.sentence("11: false when v is not -99 .. 99", BoundaryCellsTest::ownRefusesMore);
        Check.sentence("11: there is no such cell", BoundaryCellsTest::ownRefusesMissingCells);
        Check.sentence("12: over THE SHAPE, empty", BoundaryCellsTest::sumOfNoCell);
        Check.sentence("12: over THE SHAPE, full", BoundaryCellsTest::sumOfAllCells);
        Check.end();
    }

    // A grid is W by H when just the cells of 0 .. W - 1 and 0 .. H - 1 are there.
    private static void dueGrid(int width, int height, int dueWidth, int dueHeight) {
        ColourSums sums = new ColourSums(width, height);
        String name = "ColourSums(" + width + ", " + height + ")";
        for (int b = -1; b <= 7; b++) {
            for (int a = -1; a <= 7; a++) {
                int x = a;
                int y = b;
                String call = name + ".cell(" + x + ", " + y + ", true)";
                if (x >= 0 && x < dueWidth && y >= 0 && y < dueHeight) {
                    Check.due(call, true, sums.cell(x, y, true));
                } else {
                    Check.dueNoIndex(call, () -> sums.cell(x, y, true));
                }
            }
        }
    }

    private static void everySize() {
        for (int height = 1; height <= 6; height++) {
            for (int width = 1; width <= 6; width++) {
                dueGrid(width, height, width, height);
            }
        }
    }

    private static void lessCountsAsOne() {
        for (int less : new int[] {0, -1, -2, -6, -7, Integer.MIN_VALUE, Integer.MIN_VALUE + 1}) {
            dueGrid(less, 3, 1, 3);
            dueGrid(4, less, 4, 1);
            dueGrid(less, less, 1, 1);
        }
    }

    private static void moreCountsAsSix() {
        for (int more : new int[] {7, 8, 12, 100, 65537, Integer.MAX_VALUE - 1, Integer.MAX_VALUE}) {
            dueGrid(more, 2, 6, 2);
            dueGrid(5, more, 5, 6);
            dueGrid(more, more, 6, 6);
            dueGrid(more, -more, 6, 1);
        }
    }

    private static void numbersOfCells() {
        for (int width = 1; width <= 6; width++) {
            ColourSums sums = new ColourSums(width, 6);
            int one = Scene.addPiece(sums, "#");
            for (int c = 0; c < 6 * width; c++) {
                sums.cell(c % width, c / width, true);
                Check.due("cell " + c + " at width " + width, c, sums.placement(one, c, 0));
            }
        }
    }

    private static void atFirstNone() {
        ColourSums sums = new ColourSums(6, 6);
        for (int c = 0; c < 36; c++) {
            Check.due("cell " + c + " is off already", false, sums.cell(c % 6, c / 6, false));
        }
        Check.due("sizes()", true, sums.sizes());
        Check.due("border(0)", -1, sums.border(0));
        Check.due("placements of a square", 0, sums.placements(Scene.addPiece(sums, "#")));
    }

    private static void cellComesAndGoes() {
        ColourSums sums = new ColourSums(6, 6);
        for (int c = 0; c < 36; c++) {
            Check.due("cell " + c + " comes", true, sums.cell(c % 6, c / 6, true));
        }
        Check.due("all are there", 36, sums.placements(Scene.addPiece(sums, "#")));
        for (int c = 0; c < 36; c++) {
            Check.due("cell " + c + " goes", true, sums.cell(c % 6, c / 6, false));
        }
        Check.due("none is there", 0, sums.placements(0));
    }

    private static void cellIsOnAlready() {
        ColourSums sums = new ColourSums(6, 6);
        int one = Scene.addPiece(sums, "#");
        for (int c = 0; c < 36; c++) {
            sums.cell(c % 6, c / 6, true);
            Check.due("cell " + c + " again", false, sums.cell(c % 6, c / 6, true));
            Check.due("cell " + c + " a third time", false, sums.cell(c % 6, c / 6, true));
            Check.due("it stays", c + 1, sums.placements(one));
        }
    }

    private static void cellIsOffAlready() {
        ColourSums sums = Scene.shapeOf(Scene.FULL);
        int one = Scene.addPiece(sums, "#");
        for (int c = 0; c < 36; c++) {
            sums.cell(c % 6, c / 6, false);
            Check.due("cell " + c + " again", false, sums.cell(c % 6, c / 6, false));
            Check.due("cell " + c + " a third time", false, sums.cell(c % 6, c / 6, false));
            Check.due("it stays away", 35 - c, sums.placements(one));
        }
    }

    // Among them cells outside whose number W y + x, wrapped to 32 bits, would be one of the grid's.
    private static void dueMissing(String name, int width, int height, CellCall call) {
        for (int x = 0; x < width; x++) {
            int column = x;
            Check.dueNoIndex(name + " above, x " + x, () -> call.of(column, -1));
            Check.dueNoIndex(name + " below, x " + x, () -> call.of(column, height));
        }
        for (int y = 0; y < height; y++) {
            int row = y;
            Check.dueNoIndex(name + " left, y " + y, () -> call.of(-1, row));
            Check.dueNoIndex(name + " right, y " + y, () -> call.of(width, row));
        }
        for (int far : FAR) {
            Check.dueNoIndex(name + " x " + far, () -> call.of(far, 0));
            Check.dueNoIndex(name + " y " + far, () -> call.of(0, far));
            Check.dueNoIndex(name + " x and y " + far, () -> call.of(far, far));
        }
        int round = (int) ((1L << 32) / Math.max(2, width));
        for (int y : new int[] {round, round + 1, -round, 1 << 29, 1 << 30, 3 << 30}) {
            Check.dueNoIndex(name + " y " + y, () -> call.of(0, y));
            Check.dueNoIndex(name + " x " + -width * y + ", y " + y, () -> call.of(-width * y, y));
        }
    }

    private static void cellRefusesMissingCells() {
        for (int width = 2; width <= 6; width++) {
            ColourSums sums = new ColourSums(width, 4);
            dueMissing("cell on, width " + width, width, 4, (x, y) -> sums.cell(x, y, true));
            dueMissing("cell off, width " + width, width, 4, (x, y) -> sums.cell(x, y, false));
        }
        ColourSums least = new ColourSums(1, 1);
        dueMissing("cell on the least grid", 1, 1, (x, y) -> least.cell(x, y, true));
    }

    private static void refusedCellChangesNothing() {
        ColourSums sums = Scene.shapeOf("#..", "..#");
        int one = Scene.addPiece(sums, "#");
        dueMissing("cell on", 3, 2, (x, y) -> sums.cell(x, y, true));
        Check.due("none came", 2, sums.placements(one));
        dueMissing("cell off", 3, 2, (x, y) -> sums.cell(x, y, false));
        Check.due("none went", 2, sums.placements(one));
    }

    private static void ownIsZeroAtFirst() {
        ColourSums sums = new ColourSums(6, 6);
        for (int c = 0; c < 36; c++) {
            sums.cell(c % 6, c / 6, true);
            Check.due("sum with cell " + c, 0, sums.sum());
        }
    }

    private static void ownStays() {
        ColourSums sums = Scene.shapeOf("##", "##");
        sums.own(0, 0, 40);
        sums.own(1, 0, 3);
        sums.own(1, 1, -20);
        sums.cell(0, 0, false);
        Check.due("one cell goes", -17, sums.sum());
        sums.cell(1, 1, false);
        Check.due("another goes", 3, sums.sum());
        sums.cell(0, 0, true);
        Check.due("the first comes again", 43, sums.sum());
        sums.cell(1, 1, true);
        Check.due("both are there", 23, sums.sum());
    }

    private static void ownIsGivenOutsideTheShape() {
        ColourSums sums = new ColourSums(3, 3);
        Check.due("given to a cell that is not of the shape", true, sums.own(2, 1, 8));
        Check.due("it does not count", 0, sums.sum());
        sums.cell(2, 1, true);
        Check.due("the cell comes", 8, sums.sum());
        sums.cell(2, 1, false);
        Check.due("another weight while it is away", true, sums.own(2, 1, -9));
        sums.cell(2, 1, true);
        Check.due("the cell comes again", -9, sums.sum());
    }

    private static void ownTakesUpTo99() {
        ColourSums sums = Scene.shapeOf(".#");
        for (int v = -99; v <= 99; v++) {
            Check.due("own " + v, true, sums.own(1, 0, v));
            Check.due("sum of " + v, v, sums.sum());
        }
        Check.due("the same again", true, sums.own(1, 0, 99));
    }

    private static void ownRefusesMore() {
        ColourSums sums = Scene.shapeOf("#.");
        sums.own(0, 0, 5);
        for (int v : new int[] {100, -100, 101, -101, 255, 256 + 5, -256, 65536, Integer.MAX_VALUE,
            Integer.MIN_VALUE, Integer.MIN_VALUE + 1}) {
            Check.due("own " + v, false, sums.own(0, 0, v));
            Check.due("the weight stays", 5, sums.sum());
            Check.due("own " + v + ", not of the shape", false, sums.own(1, 0, v));
        }
        sums.cell(1, 0, true);
        Check.due("that one stayed 0", 5, sums.sum());
    }

    private static void ownRefusesMissingCells() {
        for (int width = 1; width <= 6; width++) {
            ColourSums sums = new ColourSums(width, 3);
            for (int c = 0; c < 3 * width; c++) {
                sums.cell(c % width, c / width, true);
            }
            dueMissing("own, width " + width, width, 3, (x, y) -> sums.own(x, y, 1));
            dueMissing("own of 100, width " + width, width, 3, (x, y) -> sums.own(x, y, 100));
            Check.due("no weight was given", 0, sums.sum());
        }
    }

    private static void sumOfNoCell() {
        ColourSums sums = new ColourSums(2, 2);
        for (int c = 0; c < 4; c++) {
            sums.own(c % 2, c / 2, 99);
        }
        Check.due("the shape is empty", 0, sums.sum());
        sums.cell(1, 1, true);
        Check.due("one cell", 99, sums.sum());
        sums.cell(1, 1, false);
        Check.due("empty again", 0, sums.sum());
    }

    private static void sumOfAllCells() {
        for (int v : new int[] {99, -99}) {
            ColourSums sums = Scene.shapeOf(Scene.FULL);
            for (int c = 0; c < 36; c++) {
                Check.due("own of cell " + c, true, sums.own(c % 6, c / 6, v));
                Check.due("sum up to cell " + c, v * (c + 1), sums.sum());
            }
        }
    }
}
