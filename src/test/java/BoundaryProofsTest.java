/** Promises 13 and 14: each sentence that names a boundary case has a test of its own. */
public final class BoundaryProofsTest {
    private static final int[] BELOW_TWO = {1, 0, -1, -2, -3, -13, -65536, Integer.MIN_VALUE + 1, Integer.MIN_VALUE};
    private static final int[] LARGE = {1000, 3564, 3565, 65536, Integer.MAX_VALUE - 1, Integer.MAX_VALUE};

    public static void main(String[] args) {
        Check.sentence("13: -1 when n is below 2", BoundaryProofsTest::badBelowTwo);
        Check.sentence("13: over how many placements (no piece)", BoundaryProofsTest::badWithoutPieces);
        Check.sentence("13: over how many placements (none, or the empty SHAPE)", BoundaryProofsTest::badOfNone);
        Check.sentence("13: over how many placements (of all pieces)", BoundaryProofsTest::badOfAllPieces);
        Check.sentence("13: over how many placements (as many as there can be)", BoundaryProofsTest::badOfMost);
        Check.sentence("13: a multiple of n (0, n, -n, more)", BoundaryProofsTest::badAndMultiples);
        Check.sentence("13: a multiple of n (n is large)", BoundaryProofsTest::badOfLargeNumbers);
        Check.sentence("13: own weights of cells of THE SHAPE alone", BoundaryProofsTest::badWithinTheShape);
        Check.sentence("14: false when n is below 2", BoundaryProofsTest::provesBelowTwo);
        Check.sentence("14: over each placement (there is none)", BoundaryProofsTest::provesWithoutPlacements);
        Check.sentence("14: over each placement of each piece", BoundaryProofsTest::provesByAllPlacements);
        Check.sentence("14: over THE SHAPE they don't (it is empty)", BoundaryProofsTest::provesNothingOfNothing);
        Check.sentence("14: over THE SHAPE they don't (a multiple of n)", BoundaryProofsTest::provesAndMultiples);
        Check.sentence("14: modulo N (n is large)", BoundaryProofsTest::provesModuloLargeNumbers);
        Check.sentence("14: modulo N (n need not be a prime)", BoundaryProofsTest::provesModuloAnyNumber);
        Check.sentence("Terms: THE COLOURING proves it modulo n", BoundaryProofsTest::foundWeightsProve);
        Check.end();
    }

    private static void give(ColourSums sums, int y, int... weights) {
        for (int x = 0; x < weights.length; x++) {
            sums.own(x, y, weights[x]);
        }
    }

    // A row of three with weights 1, -1, 1: dominoes sum to 0, and the row to 1.
    private static ColourSums provingModuloAll() {
        ColourSums sums = Scene.shapeOf("###");
        Scene.addPiece(sums, "##");
        give(sums, 0, 1, -1, 1);
        return sums;
    }

    private static void badBelowTwo() {
        ColourSums none = new ColourSums(2, 2);
        ColourSums good = provingModuloAll();
        ColourSums bad = Scene.shapeOf("###");
        Scene.addPiece(bad, "##");
        give(bad, 0, 1, 1, 1);
        for (int n : BELOW_TWO) {
            Check.due("no piece, bad(" + n + ")", -1, none.bad(n));
            Check.due("no placement is bad, bad(" + n + ")", -1, good.bad(n));
            Check.due("all placements are bad, bad(" + n + ")", -1, bad.bad(n));
        }
        Check.due("no piece, bad(2)", 0, none.bad(2));
        Check.due("no placement is bad, bad(2)", 0, good.bad(2));
        Check.due("1 + 1, bad(2)", 0, bad.bad(2));
        Check.due("1 + 1, bad(3)", 2, bad.bad(3));
    }

    private static void badWithoutPieces() {
        ColourSums sums = Scene.shapeOf("##", "##");
        give(sums, 0, 1, 1);
        give(sums, 1, 1, 1);
        for (int n = 2; n < 20; n++) {
            Check.due("bad(" + n + ")", 0, sums.bad(n));
        }
    }

    private static void badOfNone() {
        ColourSums sums = new ColourSums(2, 2);
        give(sums, 0, 1, 1);
        sums.piece();
        Check.due("a piece without squares, the empty shape", 0, sums.bad(2));
        sums.cell(0, 0, true);
        sums.cell(1, 0, true);
        Check.due("a piece without squares", 0, sums.bad(2));
        Scene.addPiece(sums, "###");
        Check.due("a piece without placements", 0, sums.bad(2));
        Scene.addPiece(sums, "#");
        Check.due("a single square", 2, sums.bad(2));
        sums.cell(0, 0, false);
        sums.cell(1, 0, false);
        Check.due("the empty shape", 0, sums.bad(2));
    }

    private static void badOfAllPieces() {
        ColourSums sums = Scene.shapeOf("###");
        give(sums, 0, 1, 0, 0);
        int[] due = {1, 2, 3, 4, 5, 6};
        for (int p = 0; p < 6; p++) {
            Scene.addPiece(sums, "#");
            Check.due("pieces 0 .. " + p, due[p], sums.bad(2));
        }
        ColourSums kinds = Scene.shapeOf("###");
        give(kinds, 0, 1, 1, 1);
        Scene.addPiece(kinds, "#");
        Scene.addPiece(kinds, "##");
        Scene.addPiece(kinds, "###");
        Check.due("of 1, 2 and 3 squares, bad(2)", 4, kinds.bad(2));
        Check.due("of 1, 2 and 3 squares, bad(3)", 5, kinds.bad(3));
        Check.due("of 1, 2 and 3 squares, bad(4)", 6, kinds.bad(4));
    }

    private static void badOfMost() {
        ColourSums sums = Scene.shapeOf(Scene.FULL);
        for (int c = 0; c < 36; c++) {
            sums.own(c % 6, c / 6, 99);
        }
        for (int p = 1; p <= 6; p++) {
            Scene.addPiece(sums, "#..", "###");
            Check.due(p + " pieces of 160 placements, bad(5)", 160 * p, sums.bad(5));
            Check.due(p + " pieces of 160 placements, bad(11)", 0, sums.bad(11));
        }
    }

    private static void badAndMultiples() {
        ColourSums sums = Scene.shapeOf("#");
        Scene.addPiece(sums, "#");
        for (int v = -14; v <= 14; v++) {
            sums.own(0, 0, v);
            for (int n = 2; n <= 9; n++) {
                Check.due("weight " + v + ", bad(" + n + ")", v % n == 0 ? 0 : 1, sums.bad(n));
            }
        }
    }

    private static void badOfLargeNumbers() {
        ColourSums sums = Scene.shapeOf("#.#");
        Scene.addPiece(sums, "#");
        give(sums, 0, 99, 0, -99);
        Check.due("bad(99)", 0, sums.bad(99));
        Check.due("bad(98)", 2, sums.bad(98));
        Check.due("bad(100)", 2, sums.bad(100));
        for (int n : LARGE) {
            Check.due("99 and -99, bad(" + n + ")", 2, sums.bad(n));
        }
        Scene.addPiece(sums, "#.#");
        for (int n : LARGE) {
            Check.due("99 and -99 together, bad(" + n + ")", 2, sums.bad(n));
        }
    }

    private static void badWithinTheShape() {
        ColourSums sums = Scene.shapeOf("##.");
        Scene.addPiece(sums, "##");
        give(sums, 0, 1, -1, 7);
        Check.due("the third cell is not of the shape", 0, sums.bad(5));
        sums.cell(2, 0, true);
        Check.due("it is", 1, sums.bad(5));
        sums.own(2, 0, 1);
        Check.due("its weight is another one", 0, sums.bad(5));
    }

    private static void provesBelowTwo() {
        ColourSums sums = provingModuloAll();
        ColourSums alone = Scene.shapeOf("#");
        alone.own(0, 0, 7);
        for (int n : BELOW_TWO) {
            Check.due("proves(" + n + ")", false, sums.proves(n));
            Check.due("no piece, proves(" + n + ")", false, alone.proves(n));
        }
        Check.due("proves(2)", true, sums.proves(2));
        Check.due("no piece, proves(2)", true, alone.proves(2));
    }

    private static void provesWithoutPlacements() {
        ColourSums sums = Scene.shapeOf("##", ".#");
        Check.due("all weigh 0", false, sums.proves(2));
        give(sums, 0, 1, 1);
        give(sums, 1, 0, 1);
        Check.due("no piece", true, sums.proves(2));
        sums.piece();
        Check.due("a piece without squares", true, sums.proves(2));
        Scene.addPiece(sums, "####");
        Check.due("a piece without placements", true, sums.proves(2));
        Scene.addPiece(sums, "#");
        Check.due("a single square", false, sums.proves(2));
    }

    private static void provesByAllPlacements() {
        ColourSums sums = provingModuloAll();
        Check.due("dominoes", true, sums.proves(5));
        Scene.addPiece(sums, "#.#");
        Check.due("a second piece sums to 2, modulo 5", false, sums.proves(5));
        Check.due("a second piece sums to 2, modulo 2", true, sums.proves(2));
        for (int x = 0; x < 6; x++) {
            ColourSums row = Scene.shapeOf("######");
            Scene.addPiece(row, "#");
            row.own(x, 0, 1);
            Check.due("placement " + x + " alone sums to 1", false, row.proves(3));
            Check.due("it is the only one", 1, row.bad(3));
        }
    }

    private static void provesNothingOfNothing() {
        ColourSums sums = new ColourSums(2, 1);
        give(sums, 0, 1, 1);
        for (int n = 2; n < 8; n++) {
            Check.due("the empty shape, proves(" + n + ")", false, sums.proves(n));
        }
        Scene.addPiece(sums, "#");
        Check.due("the empty shape, a piece", false, sums.proves(2));
    }

    private static void provesAndMultiples() {
        ColourSums sums = Scene.shapeOf("#");
        for (int v = -14; v <= 14; v++) {
            sums.own(0, 0, v);
            for (int n = 2; n <= 9; n++) {
                Check.due("weight " + v + ", proves(" + n + ")", v % n != 0, sums.proves(n));
            }
        }
    }

    private static void provesModuloLargeNumbers() {
        ColourSums sums = provingModuloAll();
        ColourSums negative = Scene.shapeOf("###");
        Scene.addPiece(negative, "##");
        give(negative, 0, -99, 99, -99);
        for (int n : LARGE) {
            Check.due("1, proves(" + n + ")", true, sums.proves(n));
            Check.due("-99, proves(" + n + ")", true, negative.proves(n));
        }
        Check.due("-99, proves(99)", false, negative.proves(99));
    }

    private static void provesModuloAnyNumber() {
        ColourSums sums = Scene.shapeOf("###");
        Scene.addPiece(sums, "##");
        give(sums, 0, 3, 3, 3);
        // Dominoes sum to 6, the row to 9.
        boolean[] due = {true, false, false, false, true, false, false, false};
        for (int n = 2; n <= 9; n++) {
            Check.due("proves(" + n + ")", due[n - 2], sums.proves(n));
        }
    }

    private static void foundWeightsProve() {
        for (int prime : new int[] {2, 3, 5, 7, 11, 13}) {
            ColourSums sums = Scene.shapeOf("####", "####", "###.");
            Scene.addPiece(sums, "##");
            Check.due("colour(" + prime + ")", 1, sums.colour(prime));
            for (int c = 0; c < 11; c++) {
                sums.own(c % 4, c / 4, sums.weight(c % 4, c / 4));
            }
            Check.due("proves(" + prime + ")", true, sums.proves(prime));
            Check.due("bad(" + prime + ")", 0, sums.bad(prime));
        }
    }
}
