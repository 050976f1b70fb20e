/** Promises 8 to 10: each sentence that names a boundary case has a test of its own. */
public final class BoundaryColoursTest {
    private static final int[] PRIMES = {2, 3, 5, 7, 11, 13};
    private static final String COLOURED = "beb;...;";

    public static void main(String[] args) {
        Check.sentence("8: -1 when n is not 2, 3, 5, 7, 11 or 13", BoundaryColoursTest::otherNumbersAreRefused);
        Check.sentence("8: -1, doing nothing (none was found)", BoundaryColoursTest::refusedFindsNothing);
        Check.sentence("8: -1, doing nothing (one was found)", BoundaryColoursTest::refusedLeavesTheFound);
        Check.sentence("8: 0 when there is none (the empty SHAPE)", BoundaryColoursTest::noneForNothing);
        Check.sentence("8: 0 when there is none (there is a cover)", BoundaryColoursTest::noneWhereThereIsACover);
        Check.sentence("8: 0 when there is none (that proves nothing)", BoundaryColoursTest::noneProvesNothing);
        Check.sentence("8: 1 when it is found (no piece)", BoundaryColoursTest::foundWithoutPieces);
        Check.sentence("8: 1 when it is found (no placement)", BoundaryColoursTest::foundWithoutPlacements);
        Check.sentence("8: 1 when it is found (the full grid)", BoundaryColoursTest::foundOnTheFullGrid);
        Check.sentence("Terms: add up to 0 over each placement (as many as there can be)",
                BoundaryColoursTest::mostPlacements);
        Check.sentence("Terms: add up to 0 over each placement (that is there now)",
                BoundaryColoursTest::placementsOfNow);
        Check.sentence("Terms: all weights 0 .. N - 1", BoundaryColoursTest::leastAndGreatestWeights);
        Check.sentence("Terms: least by the first cell that differs", BoundaryColoursTest::leastByTheFirstCell);
        Check.sentence("9: -1 when it is not of THE SHAPE", BoundaryColoursTest::noWeightOutsideTheShape);
        Check.sentence("9: -1 when none is found", BoundaryColoursTest::noWeightBeforeOneIsFound);
        Check.sentence("9: -1 when THE SHAPE was changed since", BoundaryColoursTest::noWeightAfterACell);
        Check.sentence("9: -1 when a piece was changed since", BoundaryColoursTest::noWeightAfterASquare);
        Check.sentence("9: -1 when a piece came since", BoundaryColoursTest::noWeightAfterAPiece);
        Check.sentence("9: what changed nothing leaves it", BoundaryColoursTest::weightStaysWhenNothingChanged);
        Check.sentence("9: what was refused leaves it", BoundaryColoursTest::weightStaysAfterRefusals);
        Check.sentence("9: found latest (another one was found)", BoundaryColoursTest::theLatestOfTwo);
        Check.sentence("9: found latest (none was found after it)", BoundaryColoursTest::theLatestAfterNone);
        Check.sentence("9: there is no such cell", BoundaryColoursTest::weightRefusesMissingCells);
        Check.sentence("10: row by row, letters (a is 0, b 1, ..)", BoundaryColoursTest::textInLetters);
        Check.sentence("10: a point for a cell that is not of THE SHAPE", BoundaryColoursTest::textWithPoints);
        Check.sentence("10: a semicolon behind each row", BoundaryColoursTest::textOfEverySize);
        Check.sentence("10: -1 when there is none (no such byte)", BoundaryColoursTest::textHasNoSuchByte);
        Check.sentence("10: -1 when there is none (as of weight())", BoundaryColoursTest::noTextWithoutColouring);
        Check.end();
    }

    // Three cells in a row and a domino: modulo 5 the weights are 1, 4, 1.
    private static ColourSums coloured() {
        ColourSums sums = Scene.shapeOf("###", "...");
        Scene.addPiece(sums, "##");
        Check.due("colour(5)", 1, sums.colour(5));
        dueFound("as found", sums);
        return sums;
    }

    private static void dueFound(String when, ColourSums sums) {
        Check.due(when + ": text", COLOURED, Scene.textOf(sums));
        Check.due(when + ": weight(0, 0)", 1, sums.weight(0, 0));
        Check.due(when + ": weight(1, 0)", 4, sums.weight(1, 0));
        Check.due(when + ": weight(2, 0)", 1, sums.weight(2, 0));
        Check.due(when + ": weight(0, 1)", -1, sums.weight(0, 1));
    }

    private static void dueNone(String when, ColourSums sums, int width, int height) {
        for (int y = 0; y < height; y++) {
            for (int x = 0; x < width; x++) {
                Check.due(when + ": weight(" + x + ", " + y + ")", -1, sums.weight(x, y));
            }
        }
        for (int i = 0; i < (width + 1) * height; i++) {
            Check.due(when + ": text(" + i + ")", -1, sums.text(i));
        }
    }

    private static boolean isPrime(int n) {
        for (int prime : PRIMES) {
            if (n == prime) {
                return true;
            }
        }
        return false;
    }

    private static void otherNumbersAreRefused() {
        ColourSums sums = Scene.shapeOf("#");
        for (int n = -40; n <= 130; n++) {
            Check.due("colour(" + n + ")", isPrime(n) ? 1 : -1, sums.colour(n));
        }
        for (int prime : PRIMES) {
            for (int wrapped : new int[] {-prime, prime + 256, prime + 65536, prime - 65536, prime * prime,
                Integer.MIN_VALUE + prime, Integer.MAX_VALUE - prime}) {
                Check.due("colour(" + wrapped + ")", -1, sums.colour(wrapped));
            }
        }
        Check.due("colour of the greatest", -1, sums.colour(Integer.MAX_VALUE));
        Check.due("colour of the least", -1, sums.colour(Integer.MIN_VALUE));
    }

    private static void refusedFindsNothing() {
        ColourSums sums = Scene.shapeOf("##", "##");
        for (int n : new int[] {-3, -1, 0, 1, 4, 6, 8, 9, 10, 12, 14, 17}) {
            sums.colour(n);
            dueNone("colour(" + n + ")", sums, 2, 2);
        }
    }

    private static void refusedLeavesTheFound() {
        ColourSums sums = coloured();
        for (int n : new int[] {-5, 0, 1, 4, 6, 9, 10, 12, 14, 15, 17, Integer.MIN_VALUE}) {
            Check.due("colour(" + n + ")", -1, sums.colour(n));
            Check.due("its text", COLOURED, Scene.textOf(sums));
        }
        dueFound("after all of them", sums);
    }

    private static void noneForNothing() {
        ColourSums sums = new ColourSums(3, 2);
        for (int prime : PRIMES) {
            Check.due("no piece, colour(" + prime + ")", 0, sums.colour(prime));
        }
        dueNone("no piece", sums, 3, 2);
        Scene.addPiece(sums, "##");
        for (int prime : PRIMES) {
            Check.due("a domino, colour(" + prime + ")", 0, sums.colour(prime));
        }
        dueNone("a domino", sums, 3, 2);
    }

    private static void noneWhereThereIsACover() {
        String[][] pieces = {{"#"}, {"##"}, {"###"}, {"##", "##"}, {"###", "###"}, {"##", "#."}};
        for (String[] piece : pieces) {
            ColourSums sums = Scene.shapeOf(Scene.FULL);
            Scene.addPiece(sums, piece);
            for (int prime : PRIMES) {
                Check.due("6 by 6 by " + piece[0] + ".., colour(" + prime + ")", 0, sums.colour(prime));
            }
            Check.due("no text", -1, sums.text(0));
        }
    }

    private static void noneProvesNothing() {
        // Two cells of one colour are away, so no dominoes cover it: modulo 2 nothing shows it, modulo 3 it shows.
        ColourSums corners = Scene.shapeOf(".###", "####", "####", "###.");
        Scene.addPiece(corners, "##");
        Check.due("dominoes, 2 corners away, colour(2)", 0, corners.colour(2));
        Check.due("dominoes, 2 corners away, colour(3)", 1, corners.colour(3));
        // Corners of three can't cover 3 by 3, but they make all weights equal and 9 of them 0, modulo any prime.
        ColourSums three = Scene.shapeOf("###", "###", "###");
        Scene.addPiece(three, "##", "#.");
        for (int prime : PRIMES) {
            Check.due("corners of three on 3 by 3, colour(" + prime + ")", 0, three.colour(prime));
        }
        dueNone("corners of three on 3 by 3", three, 3, 3);
    }

    private static void foundWithoutPieces() {
        for (int size = 1; size <= 36; size++) {
            ColourSums sums = new ColourSums(6, 6);
            for (int c = 0; c < size; c++) {
                sums.cell(c % 6, c / 6, true);
            }
            for (int prime : PRIMES) {
                Check.due("no piece, " + size + " cells, colour(" + prime + ")", 1, sums.colour(prime));
                for (int c = 0; c < size; c++) {
                    int due = c == size - 1 ? 1 : 0;
                    Check.due("only the last cell weighs", due, sums.weight(c % 6, c / 6));
                }
            }
        }
    }

    private static void foundWithoutPlacements() {
        for (int prime : PRIMES) {
            ColourSums sums = Scene.shapeOf("##", "#.");
            sums.piece();
            Check.due("a piece without squares, colour(" + prime + ")", 1, sums.colour(prime));
            Check.due("its text", "aa;b.;", Scene.textOf(sums));
            Scene.addPiece(sums, "###");
            Check.due("a piece that has no placement, colour(" + prime + ")", 1, sums.colour(prime));
            Check.due("its text", "aa;b.;", Scene.textOf(sums));
        }
    }

    // Rows of 4 take each (x + y) modulo 4 once; on 6 by 6 there are 9 cells of 0 and 10 of 1, so that 1 and -1 for
    // these prove it modulo every prime.
    private static void foundOnTheFullGrid() {
        ColourSums sums = Scene.shapeOf(Scene.FULL);
        int row = Scene.addPiece(sums, "####");
        for (int prime : PRIMES) {
            Check.due("rows of 4, colour(" + prime + ")", 1, sums.colour(prime));
            dueColouring(sums, row, prime);
        }
    }

    private static void dueColouring(ColourSums sums, int piece, int prime) {
        int[] weights = new int[36];
        int total = 0;
        for (int c = 0; c < 36; c++) {
            weights[c] = sums.weight(c % 6, c / 6);
            total += weights[c];
            Check.due("weight of cell " + c + " is 0 .. n - 1", true, weights[c] >= 0 && weights[c] < prime);
        }
        Check.due("the shape adds up to 1", 1, total % prime);
        for (int k = 0; k < sums.placements(piece) && k < 3; k++) {
            int over = 0;
            for (int i = 0; i < 4; i++) {
                over += weights[sums.placement(piece, k, i)];
            }
            Check.due("placement " + k + " adds up to 0", 0, over % prime);
        }
    }

    // Turned over, L's of four make cells two apart weigh the same: so there are four kinds of cells, nine of each,
    // and by the L's the four kinds sum to 0.
    private static void mostPlacements() {
        ColourSums sums = Scene.shapeOf(Scene.FULL);
        for (int p = 0; p < 6; p++) {
            Scene.addPiece(sums, "#..", "###");
            for (int prime : PRIMES) {
                Check.due(p + 1 + " pieces, colour(" + prime + ")", 0, sums.colour(prime));
            }
        }
    }

    private static void placementsOfNow() {
        ColourSums sums = Scene.shapeOf("###");
        Scene.addPiece(sums, "##");
        sums.colour(5);
        Check.due("two dominoes", "beb;", Scene.textOf(sums));
        sums.cell(1, 0, false);
        Check.due("no domino is left", 1, sums.colour(5));
        Check.due("only the last cell weighs", "a.b;", Scene.textOf(sums));
        sums.cell(1, 0, true);
        sums.cell(2, 0, false);
        Check.due("one domino, and no more", 0, sums.colour(5));
        sums.square(0, 2, 0);
        Check.due("it has grown too long", 1, sums.colour(5));
        Check.due("the last cell again", "ab.;", Scene.textOf(sums));
    }

    private static void leastAndGreatestWeights() {
        String[] due = {"bbbbb;", "bcbcb;", "bebeb;", "bgbgb;", "bkbkb;", "bmbmb;"};
        for (int i = 0; i < PRIMES.length; i++) {
            ColourSums sums = Scene.shapeOf("#####");
            Scene.addPiece(sums, "##");
            Check.due("colour(" + PRIMES[i] + ")", 1, sums.colour(PRIMES[i]));
            Check.due("1 and -1 by turns", due[i], Scene.textOf(sums));
            Check.due("the greatest", PRIMES[i] - 1, sums.weight(1, 0));
        }
    }

    private static void leastByTheFirstCell() {
        // a+b+c = 0 and b+c+d = 0 over rows of three: a = d = 1; of b + c = -1 the least b is 0.
        ColourSums row = Scene.shapeOf("####");
        Scene.addPiece(row, "###");
        row.colour(7);
        Check.due("rows of three on four", "bagb;", Scene.textOf(row));
        // Only the cell alone may weigh, wherever it is: over a domino 0 and 0 are the least.
        ColourSums last = Scene.shapeOf("##.#");
        Scene.addPiece(last, "##");
        last.colour(11);
        Check.due("a cell alone, at the end", "aa.b;", Scene.textOf(last));
        ColourSums first = Scene.shapeOf("#.##");
        Scene.addPiece(first, "##");
        first.colour(11);
        Check.due("a cell alone, at the beginning", "b.aa;", Scene.textOf(first));
        // No piece binds any of them: the last one weighs.
        ColourSums two = Scene.shapeOf("#.#", "...", "..#");
        Scene.addPiece(two, "##");
        two.colour(3);
        Check.due("three cells alone", "a.a;...;..b;", Scene.textOf(two));
    }

    private static void noWeightOutsideTheShape() {
        ColourSums sums = Scene.shapeOf("#.#", ".#.", "#.#");
        Check.due("colour(3)", 1, sums.colour(3));
        for (int c = 0; c < 9; c++) {
            Check.due("weight of cell " + c, c % 2 == 1 ? -1 : c == 8 ? 1 : 0, sums.weight(c % 3, c / 3));
        }
    }

    private static void noWeightBeforeOneIsFound() {
        ColourSums sums = Scene.shapeOf("##");
        dueNone("none was looked for", sums, 2, 1);
        Scene.addPiece(sums, "##");
        Check.due("colour(3)", 0, sums.colour(3));
        dueNone("none was found", sums, 2, 1);
        dueNone("the empty shape", new ColourSums(6, 6), 6, 6);
    }

    private static void noWeightAfterACell() {
        ColourSums comes = coloured();
        comes.cell(2, 1, true);
        dueNone("a cell came", comes, 3, 2);
        comes.cell(2, 1, false);
        dueNone("it came and went", comes, 3, 2);
        comes.colour(5);
        dueFound("found anew", comes);
        ColourSums goes = coloured();
        goes.cell(1, 0, false);
        dueNone("a cell went", goes, 3, 2);
        goes.cell(1, 0, true);
        dueNone("it went and came", goes, 3, 2);
        Check.due("a wrong n does not bring it back", -1, goes.colour(4));
        dueNone("a wrong n", goes, 3, 2);
        goes.colour(5);
        dueFound("found anew", goes);
    }

    private static void noWeightAfterASquare() {
        ColourSums sums = coloured();
        sums.square(0, 3, 3);
        dueNone("a square came", sums, 3, 2);
        ColourSums empty = Scene.shapeOf("###", "...");
        Scene.addPiece(empty, "##");
        int piece = empty.piece();
        empty.colour(5);
        dueFound("with a piece without squares", empty);
        empty.square(piece, 0, 0);
        dueNone("it has its first square", empty, 3, 2);
    }

    private static void noWeightAfterAPiece() {
        ColourSums sums = coloured();
        for (int p = 1; p < 6; p++) {
            Check.due("piece()", p, sums.piece());
            dueNone("piece " + p + " came", sums, 3, 2);
            sums.colour(5);
            dueFound("found anew", sums);
        }
    }

    private static void weightStaysWhenNothingChanged() {
        ColourSums sums = coloured();
        for (int p = 1; p < 6; p++) {
            sums.piece();
        }
        sums.colour(5);
        Check.due("piece(), there are 6", -1, sums.piece());
        dueFound("no piece came", sums);
        Check.due("a cell that is on", false, sums.cell(1, 0, true));
        Check.due("a cell that is off", false, sums.cell(1, 1, false));
        dueFound("no cell came or went", sums);
        Check.due("a square that it has", false, sums.square(0, 0, 0));
        dueFound("no square came", sums);
        sums.own(0, 0, 50);
        sums.own(0, 1, 50);
        dueFound("own weights", sums);
        ColourSums full = Scene.shapeOf("#");
        Scene.addPiece(full, "###", "###");
        full.colour(2);
        Check.due("a seventh square", false, full.square(0, 3, 3));
        Check.due("it did not come", "b;", Scene.textOf(full));
    }

    private static void weightStaysAfterRefusals() {
        ColourSums sums = coloured();
        Check.dueNoIndex("cell", () -> sums.cell(3, 0, true));
        Check.dueNoIndex("cell", () -> sums.cell(0, -1, false));
        dueFound("cells that there are not", sums);
        Check.dueNoIndex("square", () -> sums.square(1, 0, 0));
        Check.dueNoIndex("square", () -> sums.square(-1, 0, 0));
        dueFound("squares of pieces that there are not", sums);
        Check.dueIllegal("square", () -> sums.square(0, 4, 0));
        Check.dueIllegal("square", () -> sums.square(0, 0, -1));
        dueFound("squares that there are not", sums);
        Check.dueNoIndex("own", () -> sums.own(3, 0, 1));
        Check.due("own", false, sums.own(0, 0, 100));
        dueFound("own weights refused", sums);
        Check.dueNoIndex("placements", () -> sums.placements(1));
        Check.dueNoIndex("weight", () -> sums.weight(0, 2));
        dueFound("questions refused", sums);
    }

    private static void theLatestOfTwo() {
        ColourSums sums = coloured();
        sums.colour(7);
        Check.due("7 after 5", "bgb;...;", Scene.textOf(sums));
        sums.colour(2);
        Check.due("2 after 7", "bbb;...;", Scene.textOf(sums));
        sums.colour(5);
        dueFound("5 after 2", sums);
    }

    private static void theLatestAfterNone() {
        ColourSums sums = Scene.shapeOf(".###", "####", "####", "###.");
        Scene.addPiece(sums, "##");
        Check.due("colour(3)", 1, sums.colour(3));
        String text = Scene.textOf(sums);
        int weight = sums.weight(1, 0);
        Check.due("colour(2)", 0, sums.colour(2));
        Check.due("the text of the one found latest", text, Scene.textOf(sums));
        Check.due("its weight", weight, sums.weight(1, 0));
    }

    private static void weightRefusesMissingCells() {
        ColourSums sums = coloured();
        ColourSums none = new ColourSums(3, 2);
        int[][] missing = {{-1, 0}, {-1, 1}, {3, 0}, {3, 1}, {0, -1}, {2, -1}, {0, 2}, {2, 2}, {6, 6}, {0, 6},
            {-3, 1}, {6, -1}, {Integer.MAX_VALUE, 0}, {Integer.MIN_VALUE, 0}, {0, Integer.MAX_VALUE},
            {0, Integer.MIN_VALUE}, {0, 1431655766}, {-3, 1431655766}};
        for (int[] xy : missing) {
            String call = "weight(" + xy[0] + ", " + xy[1] + ")";
            Check.dueNoIndex(call, () -> sums.weight(xy[0], xy[1]));
            Check.dueNoIndex(call + ", none is found", () -> none.weight(xy[0], xy[1]));
        }
    }

    private static void textInLetters() {
        ColourSums sums = Scene.shapeOf("##", "##");
        Scene.addPiece(sums, "##", "#.");
        for (int prime : new int[] {5, 7, 11, 13}) {
            // Of a, b, c, d any three sum to 0: all are equal to w, 3 w = 0 and 4 w = 1: there is none.
            Check.due("corners of three, colour(" + prime + ")", 0, sums.colour(prime));
        }
        // Modulo 3 all weigh 1: 3 is nothing, and 4 is 1.
        Check.due("corners of three, colour(3)", 1, sums.colour(3));
        Check.due("all b", "bb;bb;", Scene.textOf(sums));
        for (int prime : PRIMES) {
            ColourSums row = Scene.shapeOf("###");
            Scene.addPiece(row, "##");
            row.colour(prime);
            Check.due("0 is a, 1 is b", (int) 'b', row.text(0));
            Check.due("n - 1", "abcdefghijklm".charAt(prime - 1), (char) row.text(1));
            Check.due("its weight", row.text(1) - 'a', row.weight(1, 0));
        }
    }

    private static void textWithPoints() {
        ColourSums sums = Scene.shapeOf("...", ".#.", "...");
        sums.colour(2);
        Check.due("one cell amid points", "...;.b.;...;", Scene.textOf(sums));
        sums.cell(0, 0, true);
        sums.colour(2);
        Check.due("another one", "a..;.b.;...;", Scene.textOf(sums));
        sums.cell(1, 1, false);
        sums.colour(2);
        Check.due("the first one is away", "b..;...;...;", Scene.textOf(sums));
    }

    private static void textOfEverySize() {
        for (int width = 1; width <= 6; width++) {
            for (int height = 1; height <= 6; height++) {
                ColourSums sums = new ColourSums(width, height);
                sums.cell(width - 1, height - 1, true);
                sums.colour(13);
                String points = "......".substring(0, width);
                String due = (points + ";").repeat(height - 1) + points.substring(1) + "b;";
                Check.due("text on " + width + " by " + height, due, Scene.textOf(sums));
                Check.due("no byte behind it", -1, sums.text((width + 1) * height));
            }
        }
        ColourSums clipped = new ColourSums(9, -9);
        clipped.cell(0, 0, true);
        clipped.colour(3);
        Check.due("on 9 by -9", "b.....;", Scene.textOf(clipped));
    }

    private static void textHasNoSuchByte() {
        ColourSums sums = coloured();
        for (int i : new int[] {-1, -2, -8, 8, 9, 42, 256, -256, Integer.MAX_VALUE, Integer.MIN_VALUE}) {
            Check.due("text(" + i + ")", -1, sums.text(i));
        }
        Check.due("the last byte", (int) ';', sums.text(7));
    }

    private static void noTextWithoutColouring() {
        ColourSums sums = Scene.shapeOf("###", "...");
        for (int i = -1; i <= 8; i++) {
            Check.due("none is found, text(" + i + ")", -1, sums.text(i));
        }
        ColourSums changed = coloured();
        changed.own(0, 1, 3);
        changed.cell(0, 1, true);
        for (int i = -1; i <= 8; i++) {
            Check.due("the shape was changed, text(" + i + ")", -1, changed.text(i));
        }
    }
}
