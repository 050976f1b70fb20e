/** Promises 3 to 7: each sentence that names a boundary case has a test of its own. */
public final class BoundaryPiecesTest {
    private static final int[] FAR = {-1000, 1000, Integer.MIN_VALUE, Integer.MIN_VALUE + 1, Integer.MAX_VALUE};
    private static final int[] NOT_A_FRAME_SIDE = {-1, -4, 4, 5, 8, 16, 32, -32, 1 << 30, Integer.MAX_VALUE,
        Integer.MIN_VALUE};
    private static final int LARGEST_PIECE = 6;

    private interface PieceCall {
        Object of(int piece);
    }

    public static void main(String[] args) {
        Check.sentence("3: A piece without squares: its number", BoundaryPiecesTest::numbersOfPieces);
        Check.sentence("3: -1 when there are 6", BoundaryPiecesTest::sixPiecesAreAll);
        Check.sentence("4: A square comes to a piece: true", BoundaryPiecesTest::everySquareComes);
        Check.sentence("4: false when it has it", BoundaryPiecesTest::pieceHasTheSquare);
        Check.sentence("4: false when it has 6", BoundaryPiecesTest::pieceHasSix);
        Check.sentence("4: there is no such piece", BoundaryPiecesTest::squareRefusesMissingPieces);
        Check.sentence("4: x or y is not 0 .. 3", BoundaryPiecesTest::squareRefusesOtherPlaces);
        Check.sentence("4: no such piece, and x or y is not 0 .. 3", BoundaryPiecesTest::squareRefusesBoth);
        Check.sentence("5: there is no such piece", BoundaryPiecesTest::placementsRefusesMissingPieces);
        Check.sentence("5: none in the empty SHAPE", BoundaryPiecesTest::noPlacementInNothing);
        Check.sentence("Terms: (A piece without squares has none.)", BoundaryPiecesTest::noPlacementWithoutSquares);
        Check.sentence("Terms: those of a piece that are one set are one", BoundaryPiecesTest::sameSetsAreOne);
        Check.sentence("Terms: a set of cells of THE SHAPE (no row goes on in the next)",
                BoundaryPiecesTest::placementsDoNotWrap);
        Check.sentence("Terms: a set of cells of THE SHAPE (a piece that just fits, and one that does not)",
                BoundaryPiecesTest::piecesAsLargeAsTheGrid);
        Check.sentence("Terms: brought by quarter turns, turning over and moving", BoundaryPiecesTest::allEightWays);
        Check.sentence("Terms: numbered by their sets, as bits, rising", BoundaryPiecesTest::numberedRising);
        Check.sentence("6: -1 when there is none (no such k)", BoundaryPiecesTest::noSuchPlacement);
        Check.sentence("6: -1 when there is none (no such i)", BoundaryPiecesTest::noSuchCellOfPlacement);
        Check.sentence("6: -1 when there is none (no placement at all)", BoundaryPiecesTest::noPlacementAtAll);
        Check.sentence("6: there is no such piece", BoundaryPiecesTest::placementRefusesMissingPieces);
        Check.sentence("7: sizes add up to the empty SHAPE", BoundaryPiecesTest::sizesOfNothing);
        Check.sentence("7: no piece", BoundaryPiecesTest::sizesWithoutPieces);
        Check.sentence("7: pieces without squares", BoundaryPiecesTest::sizesWithoutSquares);
        Check.sentence("7: each any number of times", BoundaryPiecesTest::sizesManyTimes);
        Check.sentence("7: each any number of times (two sizes)", BoundaryPiecesTest::sizesOfTwoKinds);
        Check.sentence("7: sizes of pieces, larger than THE SHAPE", BoundaryPiecesTest::sizesTooLarge);
        Check.sentence("7: sizes of pieces, whether they have placements or not", BoundaryPiecesTest::sizesAlone);
        Check.end();
    }

    private static ColourSums withPieces(int count) {
        ColourSums sums = Scene.shapeOf("###", "###");
        for (int p = 0; p < count; p++) {
            sums.piece();
        }
        return sums;
    }

    private static void dueMissing(String name, int count, PieceCall call) {
        for (int number : new int[] {-1, count, count + 1, 6, 7, 32, 256, -256}) {
            Check.dueNoIndex(name + ", " + count + " pieces, piece " + number, () -> call.of(number));
        }
        for (int far : FAR) {
            Check.dueNoIndex(name + ", " + count + " pieces, piece " + far, () -> call.of(far));
        }
    }

    private static ColourSums shapeOfSize(int size) {
        ColourSums sums = new ColourSums(6, 6);
        for (int c = 0; c < size; c++) {
            sums.cell(c % 6, c / 6, true);
        }
        return sums;
    }

    private static int addPieceOfSize(ColourSums sums, int size) {
        int piece = sums.piece();
        for (int s = 0; s < size; s++) {
            sums.square(piece, s % 4, s / 4);
        }
        return piece;
    }

    private static void numbersOfPieces() {
        ColourSums sums = Scene.shapeOf(Scene.FULL);
        for (int p = 0; p < 6; p++) {
            Check.due("piece()", p, sums.piece());
            Check.due("piece " + p + " is without squares", 0, sums.placements(p));
            sums.square(p, 1, 1);
            Check.due("piece " + p + " has one", 36, sums.placements(p));
        }
    }

    private static void sixPiecesAreAll() {
        ColourSums sums = Scene.shapeOf("##");
        for (int p = 0; p < 6; p++) {
            addPieceOfSize(sums, 1);
        }
        for (int more = 0; more < 300; more++) {
            Check.due("piece(), there are 6", -1, sums.piece());
        }
        for (int p = 0; p < 6; p++) {
            Check.due("piece " + p + " is as it was", 2, sums.placements(p));
        }
        Check.dueNoIndex("no seventh came", () -> sums.placements(6));
    }

    private static void everySquareComes() {
        for (int s = 0; s < 16; s++) {
            ColourSums sums = Scene.shapeOf("##", "##");
            sums.piece();
            Check.due("square (" + s % 4 + ", " + s / 4 + ")", true, sums.square(0, s % 4, s / 4));
            Check.due("it is there", 4, sums.placements(0));
        }
        ColourSums sums = withPieces(6);
        for (int p = 0; p < 6; p++) {
            for (int s = 0; s < LARGEST_PIECE; s++) {
                Check.due("square " + s + " of piece " + p, true, sums.square(p, s % 3, s / 3));
            }
        }
    }

    private static void pieceHasTheSquare() {
        for (int s = 0; s < 16; s++) {
            ColourSums sums = Scene.shapeOf("##", "##");
            sums.piece();
            sums.piece();
            sums.square(0, s % 4, s / 4);
            Check.due("it has it", false, sums.square(0, s % 4, s / 4));
            Check.due("it has it still", false, sums.square(0, s % 4, s / 4));
            Check.due("it stays as it is", 4, sums.placements(0));
            Check.due("another piece has not", true, sums.square(1, s % 4, s / 4));
        }
    }

    private static void pieceHasSix() {
        ColourSums sums = Scene.shapeOf("###", "###");
        int full = addPieceOfSize(sums, LARGEST_PIECE);
        int other = sums.piece();
        for (int s = 0; s < 16; s++) {
            Check.due("a square more, " + s, false, sums.square(full, s % 4, s / 4));
        }
        Check.due("it has 6", true, sums.sizes());
        sums.cell(0, 0, false);
        Check.due("it has not less", false, sums.sizes());
        Check.due("another piece takes one", true, sums.square(other, 3, 3));
        ColourSums seven = shapeOfSize(7);
        addPieceOfSize(seven, 7);
        Check.due("it has not 7", false, seven.sizes());
    }

    private static void squareRefusesMissingPieces() {
        for (int count = 0; count <= 6; count++) {
            ColourSums sums = withPieces(count);
            dueMissing("square", count, p -> sums.square(p, 0, 0));
            for (int p = 0; p < count; p++) {
                Check.due("no square came to piece " + p, 0, sums.placements(p));
            }
            Check.due("no piece came", count < 6 ? count : -1, sums.piece());
        }
    }

    private static void squareRefusesOtherPlaces() {
        ColourSums sums = Scene.shapeOf("######");
        int piece = sums.piece();
        for (int wrong : NOT_A_FRAME_SIDE) {
            for (int right = 0; right < 4; right++) {
                int good = right;
                Check.dueIllegal("square x " + wrong + ", y " + good, () -> sums.square(piece, wrong, good));
                Check.dueIllegal("square x " + good + ", y " + wrong, () -> sums.square(piece, good, wrong));
            }
            Check.dueIllegal("square x and y " + wrong, () -> sums.square(piece, wrong, wrong));
            Check.dueIllegal("square x " + wrong + ", y " + -wrong, () -> sums.square(piece, wrong, -wrong));
        }
        Check.due("no square came", 0, sums.placements(piece));
        for (int s = 0; s < LARGEST_PIECE; s++) {
            Check.due("six may come", true, sums.square(piece, s % 4, s / 4));
        }
        for (int wrong : NOT_A_FRAME_SIDE) {
            Check.dueIllegal("square x " + wrong + ", it has 6", () -> sums.square(piece, wrong, 0));
            Check.dueIllegal("square y " + wrong + ", it has 6", () -> sums.square(piece, 0, wrong));
        }
    }

    private static void squareRefusesBoth() {
        ColourSums sums = withPieces(2);
        for (int wrong : NOT_A_FRAME_SIDE) {
            dueMissing("square x " + wrong, 2, p -> sums.square(p, wrong, 0));
            dueMissing("square y " + wrong, 2, p -> sums.square(p, 0, wrong));
        }
    }

    private static void placementsRefusesMissingPieces() {
        for (int count = 0; count <= 6; count++) {
            ColourSums sums = withPieces(count);
            dueMissing("placements", count, sums::placements);
            for (int p = 0; p < count; p++) {
                Check.due("placements of piece " + p + ", that is there", 0, sums.placements(p));
            }
        }
    }

    private static void noPlacementInNothing() {
        ColourSums sums = new ColourSums(6, 6);
        for (int size = 1; size <= 6; size++) {
            int piece = addPieceOfSize(sums, size);
            Check.due("placements of " + size + " squares", 0, sums.placements(piece));
        }
        sums.cell(5, 5, true);
        Check.due("a cell comes", 1, sums.placements(0));
        sums.cell(5, 5, false);
        Check.due("empty again", 0, sums.placements(0));
        ColourSums grown = Scene.shapeOf("##");
        int piece = Scene.addPiece(grown, "#");
        Check.due("two cells", 2, grown.placements(piece));
        grown.cell(0, 0, false);
        grown.cell(1, 0, false);
        grown.square(piece, 1, 0);
        Check.due("a square came after the last cell had gone", 0, grown.placements(piece));
    }

    private static void noPlacementWithoutSquares() {
        for (int width = 1; width <= 6; width++) {
            ColourSums sums = new ColourSums(width, 6);
            int piece = sums.piece();
            Check.due("the empty shape", 0, sums.placements(piece));
            for (int c = 0; c < 6 * width; c++) {
                sums.cell(c % width, c / width, true);
                Check.due("a shape of " + (c + 1), 0, sums.placements(piece));
            }
        }
    }

    private static void sameSetsAreOne() {
        ColourSums sums = Scene.shapeOf(Scene.FULL);
        Check.due("one square", 36, sums.placements(Scene.addPiece(sums, "#")));
        Check.due("two", 60, sums.placements(Scene.addPiece(sums, "##")));
        Check.due("four in a row", 36, sums.placements(Scene.addPiece(sums, "####")));
        Check.due("four in a box", 25, sums.placements(Scene.addPiece(sums, "##", "##")));
        Check.due("a cross", 16, sums.placements(Scene.addPiece(sums, ".#.", "###", ".#.")));
        Check.due("corners of the frame", 9, sums.placements(Scene.addPiece(sums, "#..#", "....", "....", "#..#")));
        ColourSums other = Scene.shapeOf(Scene.FULL);
        Check.due("a corner of three", 100, other.placements(Scene.addPiece(other, "##", "#.")));
        Check.due("six in a box", 40, other.placements(Scene.addPiece(other, "###", "###")));
        Check.due("a T", 80, other.placements(Scene.addPiece(other, "###", ".#.")));
        Check.due("an S, half turned the same", 80, other.placements(Scene.addPiece(other, ".##", "##.")));
        Check.due("a cell and one aslant", 50, other.placements(Scene.addPiece(other, "#.", ".#")));
        Check.due("an L, all ways other", 160, other.placements(Scene.addPiece(other, "#..", "###")));
    }

    // On a full grid of W by H, dominoes are H (W - 1) + W (H - 1): none joins a row's end to the next one's start.
    private static void placementsDoNotWrap() {
        for (int width = 1; width <= 6; width++) {
            for (int height = 1; height <= 6; height++) {
                ColourSums sums = new ColourSums(width, height);
                for (int c = 0; c < width * height; c++) {
                    sums.cell(c % width, c / width, true);
                }
                int due = height * (width - 1) + width * (height - 1);
                int domino = Scene.addPiece(sums, "##");
                Check.due("dominoes on " + width + " by " + height, due, sums.placements(domino));
            }
        }
        ColourSums ends = Scene.shapeOf("..#", "#..");
        Check.due("a row's end and the next one's start", 0, ends.placements(Scene.addPiece(ends, "##")));
        Check.due("the same, but for one aslant", 0, ends.placements(Scene.addPiece(ends, "#.", ".#")));
        Check.due("two apart, one below", 1, ends.placements(Scene.addPiece(ends, "#..", "..#")));
    }

    private static void piecesAsLargeAsTheGrid() {
        String[] corners = {"#...", "....", "....", "...#"};
        ColourSums four = Scene.shapeOf("####", "####", "####", "####");
        Check.due("the whole frame on 4 by 4", 2, four.placements(Scene.addPiece(four, corners)));
        ColourSums low = Scene.shapeOf("######", "######", "######");
        Check.due("the whole frame on 6 by 3", 0, low.placements(Scene.addPiece(low, corners)));
        ColourSums narrow = Scene.shapeOf("###", "###", "###", "###", "###", "###");
        Check.due("the whole frame on 3 by 6", 0, narrow.placements(Scene.addPiece(narrow, corners)));
        ColourSums row = Scene.shapeOf("####");
        Check.due("four on 4 by 1", 1, row.placements(Scene.addPiece(row, "#", "#", "#", "#")));
        ColourSums column = Scene.shapeOf("#", "#", "#", "#");
        Check.due("four on 1 by 4", 1, column.placements(Scene.addPiece(column, "####")));
        ColourSums short3 = Scene.shapeOf("###");
        Check.due("four on 3 by 1", 0, short3.placements(Scene.addPiece(short3, "####")));
        ColourSums one = Scene.shapeOf("#");
        Check.due("one on 1 by 1", 1, one.placements(Scene.addPiece(one, "....", "....", "....", "...#")));
        Check.due("two on 1 by 1", 0, one.placements(Scene.addPiece(one, "##")));
    }

    // Each of the 8 ways is the only one that fits the shape.
    private static void allEightWays() {
        String[][] ways = {{"#..", "###"}, {"..#", "###"}, {"###", "#.."}, {"###", "..#"}, {"##", "#.", "#."},
            {"##", ".#", ".#"}, {"#.", "#.", "##"}, {".#", ".#", "##"}};
        for (String[] way : ways) {
            for (String[] other : ways) {
                ColourSums sums = Scene.shapeOf(way);
                int piece = Scene.addPiece(sums, other);
                Check.due("one way of an L onto another", 1, sums.placements(piece));
            }
        }
    }

    private static void numberedRising() {
        ColourSums sums = Scene.shapeOf(Scene.FULL);
        int l = Scene.addPiece(sums, "#..", "###");
        Check.due("the least set", "0 1 2 6 ", Scene.placementOf(sums, l, 0));
        Check.due("the greatest set", "29 33 34 35 ", Scene.placementOf(sums, l, 159));
        int one = Scene.addPiece(sums, "#");
        for (int k = 0; k < 36; k++) {
            Check.due("single cell " + k, k, sums.placement(one, k, 0));
        }
        int aslant = Scene.addPiece(sums, "#.", ".#");
        // By the greater cell first: 6 has 1, 7 has 0 and 2, 8 has 1 and 3; a cell of the left edge has one alone.
        String[] rising = {"1 6 ", "0 7 ", "2 7 ", "1 8 ", "3 8 ", "2 9 ", "4 9 ", "3 10 ", "5 10 ", "4 11 ", "7 12 "};
        for (int k = 0; k < rising.length; k++) {
            Check.due("aslant " + k, rising[k], Scene.placementOf(sums, aslant, k));
        }
        long before = -1;
        for (int k = 0; k < 50; k++) {
            long set = 1L << sums.placement(aslant, k, 0) | 1L << sums.placement(aslant, k, 1);
            Check.due("aslant " + k + " is greater than the one before", true, set > before);
            before = set;
        }
    }

    private static void noSuchPlacement() {
        ColourSums sums = Scene.shapeOf(Scene.FULL);
        int[] count = {160, 36, 60};
        Scene.addPiece(sums, "#..", "###");
        Scene.addPiece(sums, "#");
        Scene.addPiece(sums, "##");
        for (int p = 0; p < count.length; p++) {
            Check.due("the last one is there", true, sums.placement(p, count[p] - 1, 0) >= 0);
            for (int k : new int[] {-1, -2, count[p], count[p] + 1, 161, 256, -256, Integer.MAX_VALUE,
                Integer.MIN_VALUE}) {
                Check.due("placement " + k + " of piece " + p, -1, sums.placement(p, k, 0));
            }
        }
        ColourSums less = Scene.shapeOf("###");
        int domino = Scene.addPiece(less, "##");
        Check.due("the second domino", 1, less.placement(domino, 1, 0));
        less.cell(0, 0, false);
        Check.due("the shape has one less", -1, less.placement(domino, 1, 0));
        Check.due("the first one then", 1, less.placement(domino, 0, 0));
    }

    private static void noSuchCellOfPlacement() {
        ColourSums sums = Scene.shapeOf(Scene.FULL);
        for (int size = 1; size <= LARGEST_PIECE; size++) {
            int piece = addPieceOfSize(sums, size);
            int before = -1;
            for (int i = 0; i < size; i++) {
                int cell = sums.placement(piece, 0, i);
                Check.due("cell " + i + " of " + size + " is greater than the one before", true, cell > before);
                before = cell;
            }
            for (int i : new int[] {-1, -2, size, size + 1, 7, 35, 36, 64, 64 + size - 1, -64, Integer.MAX_VALUE,
                Integer.MIN_VALUE}) {
                Check.due("cell " + i + " of " + size, -1, sums.placement(piece, 0, i));
            }
        }
    }

    private static void noPlacementAtAll() {
        ColourSums sums = new ColourSums(3, 3);
        int piece = sums.piece();
        Check.due("no square, the empty shape", -1, sums.placement(piece, 0, 0));
        sums.cell(1, 1, true);
        Check.due("no square", -1, sums.placement(piece, 0, 0));
        Check.due("no square, k -1", -1, sums.placement(piece, -1, 0));
        sums.square(piece, 0, 0);
        Check.due("one square", 4, sums.placement(piece, 0, 0));
        sums.square(piece, 0, 1);
        Check.due("two squares, one cell", -1, sums.placement(piece, 0, 0));
        sums.cell(1, 1, false);
        Check.due("the empty shape", -1, sums.placement(piece, 0, 0));
    }

    private static void placementRefusesMissingPieces() {
        for (int count = 0; count <= 6; count++) {
            ColourSums sums = withPieces(count);
            dueMissing("placement", count, p -> sums.placement(p, 0, 0));
            dueMissing("placement, k -1", count, p -> sums.placement(p, -1, 0));
            dueMissing("placement, i -1", count, p -> sums.placement(p, 0, -1));
        }
    }

    private static void sizesOfNothing() {
        ColourSums sums = new ColourSums(4, 4);
        Check.due("no piece", true, sums.sizes());
        int piece = sums.piece();
        Check.due("a piece without squares", true, sums.sizes());
        for (int s = 0; s < LARGEST_PIECE; s++) {
            sums.square(piece, s % 4, s / 4);
            Check.due("a piece of " + (s + 1), true, sums.sizes());
        }
        sums.cell(3, 3, true);
        Check.due("one cell", false, sums.sizes());
        sums.cell(3, 3, false);
        Check.due("empty again", true, sums.sizes());
    }

    private static void sizesWithoutPieces() {
        for (int size = 1; size <= 36; size++) {
            Check.due("no piece for " + size, false, shapeOfSize(size).sizes());
        }
    }

    private static void sizesWithoutSquares() {
        for (int size = 1; size <= 36; size++) {
            ColourSums sums = shapeOfSize(size);
            for (int p = 0; p < 6; p++) {
                sums.piece();
                Check.due("pieces without squares for " + size, false, sums.sizes());
            }
            sums.square(3, 0, 0);
            Check.due("a square among them, for " + size, true, sums.sizes());
        }
    }

    private static void sizesManyTimes() {
        for (int size = 0; size <= 36; size++) {
            for (int of = 1; of <= LARGEST_PIECE; of++) {
                ColourSums sums = shapeOfSize(size);
                addPieceOfSize(sums, of);
                Check.due("pieces of " + of + " for " + size, size % of == 0, sums.sizes());
            }
        }
    }

    private static void sizesOfTwoKinds() {
        String fiveAndSix = " 1 2 3 4 7 8 9 13 14 19 ";
        String fourAndSix = " 2 ";
        for (int size = 0; size <= 36; size++) {
            ColourSums sums = shapeOfSize(size);
            addPieceOfSize(sums, 5);
            addPieceOfSize(sums, 6);
            Check.due("5 and 6 for " + size, !fiveAndSix.contains(" " + size + " "), sums.sizes());
            ColourSums even = shapeOfSize(size);
            addPieceOfSize(even, 6);
            addPieceOfSize(even, 4);
            boolean due = size % 2 == 0 && !fourAndSix.contains(" " + size + " ");
            Check.due("6 and 4 for " + size, due, even.sizes());
        }
    }

    private static void sizesTooLarge() {
        for (int size = 1; size < LARGEST_PIECE; size++) {
            ColourSums sums = shapeOfSize(size);
            for (int of = LARGEST_PIECE; of > size; of--) {
                addPieceOfSize(sums, of);
                Check.due("pieces of " + of + " and more for " + size, false, sums.sizes());
            }
            addPieceOfSize(sums, size);
            Check.due("one of " + size + ", too", true, sums.sizes());
        }
    }

    private static void sizesAlone() {
        ColourSums sums = Scene.shapeOf("#.#", "...", "#.#");
        int row = Scene.addPiece(sums, "####");
        Check.due("it has no placement", 0, sums.placements(row));
        Check.due("but its size adds up", true, sums.sizes());
    }
}
