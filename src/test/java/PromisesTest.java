/** Each promise of the document on its own: ordinary inputs, named edges, wrong inputs. */
public final class PromisesTest {
    private static final Class<ArrayIndexOutOfBoundsException> NO_INDEX =
            ArrayIndexOutOfBoundsException.class;
    private static final Class<IllegalArgumentException> ILLEGAL = IllegalArgumentException.class;

    private static final int[] WRONG_NUMBERS = {-1, 6, 7, 36, 100, Integer.MAX_VALUE, Integer.MIN_VALUE};

    public static void main(String[] args) {
        promise1NewObject();
        promise2Cell();
        promise3Piece();
        promise4Square();
        promise5Placements();
        promise6Placement();
        promise7Sizes();
        promise8Colour();
        promise8ColourIsLeast();
        promise9Weight();
        promise9WhatEndsAColouring();
        promise9WhatLeavesAColouring();
        promise10Text();
        promise11Own();
        promise12Sum();
        promise13Bad();
        promise14Proves();
        promise15Border();
        promise15BorderAtACrossing();
        promise16Runs();
        promise17Run();
        Check.end();
    }

    private static void promise1NewObject() {
        int[][] sizes = {{1, 1, 1, 1}, {6, 6, 6, 6}, {3, 5, 3, 5}, {0, 2, 1, 2}, {2, 0, 2, 1}, {-7, -1, 1, 1},
            {7, 3, 6, 3}, {3, 7, 3, 6}, {Integer.MAX_VALUE, Integer.MIN_VALUE, 6, 1}};
        for (int[] s : sizes) {
            ColourSums sums = new ColourSums(s[0], s[1]);
            String name = "1: ColourSums(" + s[0] + ", " + s[1] + ")";
            Check.due(name + " last cell", true, sums.cell(s[2] - 1, s[3] - 1, true));
            Check.dueThrow(name + " x behind", NO_INDEX, () -> sums.cell(s[2], s[3] - 1, true));
            Check.dueThrow(name + " y behind", NO_INDEX, () -> sums.cell(s[2] - 1, s[3], true));
        }
        ColourSums fresh = new ColourSums(4, 3);
        Check.due("1: no cell of the shape at first", false, fresh.cell(2, 2, false));
        Check.due("1: no border at first", -1, fresh.border(0));
        Check.due("1: no own weight at first", 0, fresh.sum());
        Check.due("1: no colouring at first", -1, fresh.text(0));
        Check.dueThrow("1: no piece at first", NO_INDEX, () -> fresh.placements(0));
    }

    private static void promise2Cell() {
        ColourSums sums = new ColourSums(3, 2);
        Check.due("2: off already", false, sums.cell(1, 1, false));
        Check.due("2: on", true, sums.cell(1, 1, true));
        Check.due("2: on already", false, sums.cell(1, 1, true));
        Check.due("2: another is not on", true, sums.cell(1, 0, true));
        Check.due("2: off", true, sums.cell(1, 1, false));
        Check.due("2: off already again", false, sums.cell(1, 1, false));
        for (int wrong : WRONG_NUMBERS) {
            Check.dueThrow("2: x " + wrong, NO_INDEX, () -> sums.cell(wrong, 0, true));
            Check.dueThrow("2: y " + wrong, NO_INDEX, () -> sums.cell(0, wrong, false));
        }
        Check.dueThrow("2: x is the width", NO_INDEX, () -> sums.cell(3, 0, true));
        Check.dueThrow("2: y is the height", NO_INDEX, () -> sums.cell(0, 2, true));
        Check.due("2: refused calls did nothing", "0123", Scene.wordOf(sums));
        ColourSums all = new ColourSums(6, 6);
        for (int c = 0; c < 36; c++) {
            Check.due("2: cell " + c + " of 36", true, all.cell(c % 6, c / 6, true));
        }
    }

    private static void promise3Piece() {
        ColourSums sums = new ColourSums(2, 2);
        for (int p = 0; p < 6; p++) {
            Check.due("3: piece " + p, p, sums.piece());
            Check.due("3: it has no squares", 0, sums.placements(p));
        }
        Check.due("3: a seventh", -1, sums.piece());
        Check.due("3: an eighth", -1, sums.piece());
        Check.due("3: the last one is there", true, sums.square(5, 0, 0));
        Check.dueThrow("3: no seventh is there", NO_INDEX, () -> sums.square(6, 0, 0));
    }

    private static void promise4Square() {
        ColourSums sums = new ColourSums(4, 4);
        int p = sums.piece();
        int[][] six = {{0, 0}, {3, 3}, {1, 2}, {2, 1}, {3, 0}, {0, 3}};
        for (int[] s : six) {
            Check.due("4: comes", true, sums.square(p, s[0], s[1]));
            Check.due("4: it has it", false, sums.square(p, s[0], s[1]));
        }
        Check.due("4: a seventh", false, sums.square(p, 1, 1));
        for (int wrong : new int[] {-1, 4, 5, Integer.MAX_VALUE, Integer.MIN_VALUE}) {
            Check.dueThrow("4: x " + wrong + ", full", ILLEGAL, () -> sums.square(p, wrong, 0));
            Check.dueThrow("4: y " + wrong + ", full", ILLEGAL, () -> sums.square(p, 0, wrong));
            Check.dueThrow("4: piece " + wrong, NO_INDEX, () -> sums.square(wrong, 0, 0));
            Check.dueThrow("4: piece and x " + wrong, NO_INDEX, () -> sums.square(wrong, wrong, 0));
        }
        Check.dueThrow("4: the next piece", NO_INDEX, () -> sums.square(1, 0, 0));
        ColourSums other = Scene.shapeOf("###");
        int domino = other.piece();
        other.square(domino, 2, 3);
        Check.due("4: placements of one square", 3, other.placements(domino));
        Check.dueThrow("4: a square outside", ILLEGAL, () -> other.square(domino, 4, 3));
        Check.due("4: it did not come", 3, other.placements(domino));
        other.square(domino, 2, 2);
        Check.due("4: placements of two", 2, other.placements(domino));
    }

    private static void promise5Placements() {
        ColourSums full = Scene.shapeOf(Scene.FULL);
        Check.due("5: one square", 36, full.placements(Scene.addPiece(full, "...", ".#.")));
        Check.due("5: domino", 60, full.placements(Scene.addPiece(full, "#", "#")));
        Check.due("5: L of four", 160, full.placements(Scene.addPiece(full, "#..", "###")));
        Check.due("5: Z of four", 80, full.placements(Scene.addPiece(full, "##", ".##")));
        Check.due("5: box of four, one symmetry", 25, full.placements(Scene.addPiece(full, "....", "..##", "..##")));
        Check.due("5: a piece without squares", 0, full.placements(full.piece()));
        ColourSums narrow = Scene.shapeOf("######");
        Check.due("5: too high for the grid", 0, narrow.placements(Scene.addPiece(narrow, "##", "##")));
        Check.due("5: turned to fit", 3, narrow.placements(Scene.addPiece(narrow, "#", "#", "#", "#")));
        Check.due("5: squares apart", 3, narrow.placements(Scene.addPiece(narrow, "#..#")));
        ColourSums shape = Scene.shapeOf("##.", ".##");
        int domino = Scene.addPiece(shape, "##");
        Check.due("5: within the shape", 3, shape.placements(domino));
        shape.cell(1, 0, false);
        Check.due("5: a cell goes", 1, shape.placements(domino));
        shape.cell(1, 0, true);
        shape.cell(2, 0, true);
        Check.due("5: cells come", 5, shape.placements(domino));
        for (int wrong : WRONG_NUMBERS) {
            Check.dueThrow("5: piece " + wrong, NO_INDEX, () -> shape.placements(wrong));
        }
        Check.dueThrow("5: the next piece", NO_INDEX, () -> shape.placements(1));
    }

    private static void promise6Placement() {
        ColourSums sums = Scene.shapeOf("###", "###");
        int domino = Scene.addPiece(sums, "##");
        // As bits: 3, 6, 9, 18, 24, 36, 48.
        String[] rising = {"0 1 ", "1 2 ", "0 3 ", "1 4 ", "3 4 ", "2 5 ", "4 5 "};
        for (int k = 0; k < rising.length; k++) {
            Check.due("6: placement " + k, rising[k], Scene.placementOf(sums, domino, k));
        }
        for (int wrong : new int[] {-1, 7, 160, Integer.MAX_VALUE, Integer.MIN_VALUE}) {
            Check.due("6: k " + wrong, -1, sums.placement(domino, wrong, 0));
            Check.due("6: i " + wrong, -1, sums.placement(domino, 0, wrong));
            Check.dueThrow("6: piece " + wrong, NO_INDEX, () -> sums.placement(wrong, 0, 0));
        }
        Check.due("6: i is the size", -1, sums.placement(domino, 0, 2));
        Check.dueThrow("6: the next piece", NO_INDEX, () -> sums.placement(1, 0, 0));
        Check.due("6: a piece without squares", -1, sums.placement(sums.piece(), 0, 0));
        int l = Scene.addPiece(sums, "#", "###");
        Check.due("6: first L", "0 1 2 3 ", Scene.placementOf(sums, l, 0));
        Check.due("6: last L", "2 3 4 5 ", Scene.placementOf(sums, l, 3));
        sums.cell(2, 1, false);
        Check.due("6: five are left", 5, sums.placements(domino));
        Check.due("6: the last of them", "3 4 ", Scene.placementOf(sums, domino, 4));
        Check.due("6: none behind it, though there was one", -1, sums.placement(domino, 5, 0));
        ColourSums big = Scene.shapeOf(Scene.FULL);
        int one = Scene.addPiece(big, "#");
        Check.due("6: a cell over bit 31", 35, big.placement(one, 35, 0));
    }

    private static void promise7Sizes() {
        ColourSums sums = new ColourSums(4, 4);
        Check.due("7: nothing adds up to an empty shape", true, sums.sizes());
        sums.cell(0, 0, true);
        Check.due("7: no piece", false, sums.sizes());
        Scene.addPiece(sums, "###");
        sums.piece();
        Check.due("7: 3 and 0 for 1", false, sums.sizes());
        Scene.addPiece(sums, "#.#", "..#", "#.#");
        boolean[] due = {false, false, true, false, true, true, false, true, true, true, true};
        for (int size = 1; size <= due.length; size++) {
            sums.cell((size - 1) % 4, (size - 1) / 4, true);
            Check.due("7: 3 and 5 for " + size, due[size - 1], sums.sizes());
        }
        ColourSums four = Scene.shapeOf("##", "##");
        Scene.addPiece(four, "#..#", "...#", "#..#", "#...");
        Check.due("7: 6 for 4", false, four.sizes());
        Scene.addPiece(four, "####");
        Check.due("7: 4 for 4, though it has no placement", true, four.sizes());
        ColourSums ones = Scene.shapeOf("###");
        Scene.addPiece(ones, "##");
        Check.due("7: 2 for 3", false, ones.sizes());
        Scene.addPiece(ones, "....", "...#");
        Check.due("7: 2 and 1 for 3", true, ones.sizes());
        ColourSums full = Scene.shapeOf(Scene.FULL);
        Scene.addPiece(full, "###", "##");
        Check.due("7: 5 for 36", false, full.sizes());
        Scene.addPiece(full, "###", "#.#", "#");
        Check.due("7: 5 and 6 for 36", true, full.sizes());
    }

    private static void promise8Colour() {
        ColourSums sums = Scene.shapeOf(".#####", "######", "######", "######", "######", "#####.");
        Scene.addPiece(sums, "##");
        int[] primes = {2, 3, 5, 7, 11, 13};
        int[] due = {0, 1, 1, 1, 1, 1};
        for (int i = 0; i < primes.length; i++) {
            Check.due("8: dominoes, 2 corners gone, " + primes[i], due[i], sums.colour(primes[i]));
        }
        for (int n : new int[] {-2, -1, 0, 1, 4, 6, 8, 9, 10, 12, 14, 17, 19, Integer.MAX_VALUE,
            Integer.MIN_VALUE}) {
            Check.due("8: " + n, -1, sums.colour(n));
        }
        ColourSums covered = Scene.shapeOf("####", "####");
        Scene.addPiece(covered, "##");
        for (int prime : primes) {
            Check.due("8: there is a cover, " + prime, 0, covered.colour(prime));
        }
        ColourSums empty = new ColourSums(3, 3);
        Check.due("8: the empty shape sums to 0", 0, empty.colour(2));
        Check.due("8: it has no text", -1, empty.text(0));
        ColourSums before = Scene.shapeOf("###");
        before.colour(3);
        String text = Scene.textOf(before);
        before.colour(4);
        Check.due("8: a wrong n does nothing", text, Scene.textOf(before));
    }

    private static void promise8ColourIsLeast() {
        ColourSums alone = Scene.shapeOf("###", "#.#");
        Check.due("8: no piece", 1, alone.colour(7));
        Check.due("8: only the last cell weighs", "aaa;a.b;", Scene.textOf(alone));
        Scene.addPiece(alone, "##");
        Check.due("8: dominoes", 1, alone.colour(7));
        // Along the strip of five by turns 1 and -1, which is 6.
        Check.due("8: alternating", "gbg;b.b;", Scene.textOf(alone));
        ColourSums three = Scene.shapeOf("####");
        Scene.addPiece(three, "###");
        Check.due("8: bars of three over four", 1, three.colour(5));
        // a+b+c = 0, b+c+d = 0, a+b+c+d = 1: a = d = 1, b + c = 4, the least b is 0.
        Check.due("8: least b", "baeb;", Scene.textOf(three));
        three.colour(13);
        Check.due("8: letters up to m", "bamb;", Scene.textOf(three));
        three.colour(2);
        Check.due("8: modulo 2", "babb;", Scene.textOf(three));
    }

    private static void promise9Weight() {
        ColourSums sums = Scene.shapeOf("####", "...#");
        Check.due("9: none looked for", -1, sums.weight(0, 0));
        Scene.addPiece(sums, "###");
        Check.due("9: colour(3)", 1, sums.colour(3));
        // Bars lie on the upper row alone: a+b+c = 0, b+c+d = 0; the sum 1 needs d+e = 1: e may do it.
        int[] row = {0, 0, 0, 0};
        for (int x = 0; x < 4; x++) {
            Check.due("9: weight(" + x + ", 0)", row[x], sums.weight(x, 0));
        }
        Check.due("9: weight(3, 1)", 1, sums.weight(3, 1));
        Check.due("9: not of the shape", -1, sums.weight(0, 1));
        for (int wrong : new int[] {-1, 6, 100, Integer.MAX_VALUE, Integer.MIN_VALUE}) {
            Check.dueThrow("9: x " + wrong, NO_INDEX, () -> sums.weight(wrong, 0));
            Check.dueThrow("9: y " + wrong, NO_INDEX, () -> sums.weight(0, wrong));
        }
        Check.dueThrow("9: x is the width", NO_INDEX, () -> sums.weight(4, 0));
        Check.dueThrow("9: y is the height", NO_INDEX, () -> sums.weight(0, 2));
        ColourSums none = new ColourSums(2, 2);
        Check.dueThrow("9: no such cell, none found", NO_INDEX, () -> none.weight(2, 0));
    }

    private static ColourSums coloured() {
        ColourSums sums = Scene.shapeOf("###", "...");
        Scene.addPiece(sums, "##");
        Check.due("9: found", 1, sums.colour(5));
        Check.due("9: its text", "beb;...;", Scene.textOf(sums));
        return sums;
    }

    private static void dueNoColouring(String what, ColourSums sums) {
        Check.due("9: " + what + ", weight", -1, sums.weight(0, 0));
        Check.due("10: " + what + ", text", -1, sums.text(0));
    }

    private static void promise9WhatEndsAColouring() {
        ColourSums cellComes = coloured();
        cellComes.cell(2, 1, true);
        dueNoColouring("a cell came", cellComes);
        cellComes.cell(2, 1, false);
        dueNoColouring("a cell came and went", cellComes);
        Check.due("9: found anew", 1, cellComes.colour(5));
        Check.due("9: found anew, text", "beb;...;", Scene.textOf(cellComes));
        ColourSums cellGoes = coloured();
        cellGoes.cell(2, 0, false);
        dueNoColouring("a cell went", cellGoes);
        Check.due("9: none is found then", 0, cellGoes.colour(5));
        dueNoColouring("a cell went, none found", cellGoes);
        ColourSums pieceComes = coloured();
        pieceComes.piece();
        dueNoColouring("a piece came", pieceComes);
        ColourSums squareComes = coloured();
        squareComes.square(0, 3, 3);
        dueNoColouring("a square came", squareComes);
    }

    private static void promise9WhatLeavesAColouring() {
        ColourSums sums = Scene.shapeOf("###", "...");
        Scene.addPiece(sums, "##");
        for (int p = 1; p < 6; p++) {
            sums.piece();
        }
        sums.colour(5);
        sums.piece();
        sums.cell(0, 0, true);
        sums.cell(0, 1, false);
        sums.square(0, 0, 0);
        sums.own(0, 0, 9);
        sums.colour(6);
        try {
            sums.cell(9, 9, true);
        } catch (ArrayIndexOutOfBoundsException e) {
            Check.due("9: refused", true, true);
        }
        try {
            sums.square(0, 9, 9);
        } catch (IllegalArgumentException e) {
            Check.due("9: refused", true, true);
        }
        Check.due("9: nothing was changed", "beb;...;", Scene.textOf(sums));
        // Two corners of one colour are gone: the colours differ by 2, which is nothing modulo 2.
        ColourSums corners = Scene.shapeOf(".###", "####", "####", "###.");
        Scene.addPiece(corners, "##");
        Check.due("9: modulo 3 there is one", 1, corners.colour(3));
        String text = Scene.textOf(corners);
        Check.due("9: modulo 2 there is none", 0, corners.colour(2));
        Check.due("9: the one found latest stays", text, Scene.textOf(corners));
        Check.due("9: modulo 5 there is one", 1, corners.colour(5));
        Check.due("9: that is found latest", false, text.equals(Scene.textOf(corners)));
    }

    private static void promise10Text() {
        ColourSums sums = Scene.shapeOf("##.", ".##", "...");
        Check.due("10: none yet", -1, sums.text(0));
        sums.colour(13);
        Check.due("10: whole", "aa.;.ab;...;", Scene.textOf(sums));
        Check.due("10: last byte", (int) ';', sums.text(11));
        for (int wrong : new int[] {-1, 12, 13, 42, Integer.MAX_VALUE, Integer.MIN_VALUE}) {
            Check.due("10: byte " + wrong, -1, sums.text(wrong));
        }
        ColourSums one = Scene.shapeOf("#");
        one.colour(2);
        Check.due("10: one cell", "b;", Scene.textOf(one));
        ColourSums wide = new ColourSums(6, 6);
        wide.cell(5, 5, true);
        wide.colour(11);
        Check.due("10: 42 bytes", "......;......;......;......;......;.....b;", Scene.textOf(wide));
    }

    private static void promise11Own() {
        ColourSums sums = Scene.shapeOf("#.", "##");
        Check.due("11: 0 at first", 0, sums.sum());
        Check.due("11: 99", true, sums.own(0, 0, 99));
        Check.due("11: 99 again", true, sums.own(0, 0, 99));
        Check.due("11: -99", true, sums.own(0, 1, -99));
        Check.due("11: both", 0, sums.sum());
        for (int wrong : new int[] {100, -100, 101, Integer.MAX_VALUE, Integer.MIN_VALUE}) {
            Check.due("11: v " + wrong, false, sums.own(0, 1, wrong));
            Check.due("11: it did nothing", 0, sums.sum());
        }
        for (int wrong : WRONG_NUMBERS) {
            Check.dueThrow("11: x " + wrong, NO_INDEX, () -> sums.own(wrong, 0, 1));
            Check.dueThrow("11: y " + wrong, NO_INDEX, () -> sums.own(0, wrong, 1));
            Check.dueThrow("11: x " + wrong + " and a wrong v", NO_INDEX, () -> sums.own(wrong, 0, 100));
        }
        Check.dueThrow("11: x is the width", NO_INDEX, () -> sums.own(2, 0, 1));
        Check.dueThrow("11: y is the height", NO_INDEX, () -> sums.own(0, 2, 1));
        Check.due("11: of a cell that is not of the shape", true, sums.own(1, 0, 7));
        Check.due("11: it does not count", 0, sums.sum());
        sums.cell(1, 0, true);
        Check.due("11: it stayed", 7, sums.sum());
        sums.cell(0, 0, false);
        sums.cell(0, 0, true);
        Check.due("11: it stays when the cell goes", 7, sums.sum());
    }

    private static void promise12Sum() {
        ColourSums sums = Scene.shapeOf(Scene.FULL);
        for (int c = 0; c < 36; c++) {
            sums.own(c % 6, c / 6, 99);
        }
        Check.due("12: all 99", 3564, sums.sum());
        sums.cell(5, 5, false);
        Check.due("12: one less", 3465, sums.sum());
        for (int c = 0; c < 36; c++) {
            sums.own(c % 6, c / 6, -99);
        }
        Check.due("12: all -99 but one", -3465, sums.sum());
        for (int c = 0; c < 36; c++) {
            sums.cell(c % 6, c / 6, false);
        }
        Check.due("12: the empty shape", 0, sums.sum());
    }

    private static void promise13Bad() {
        ColourSums sums = Scene.shapeOf("####");
        Check.due("13: no piece", 0, sums.bad(2));
        Scene.addPiece(sums, "##");
        sums.own(0, 0, 1);
        sums.own(1, 0, 2);
        sums.own(2, 0, -5);
        sums.own(3, 0, 5);
        // Dominoes: 3, -3, 0.
        Check.due("13: modulo 3", 0, sums.bad(3));
        Check.due("13: modulo 2", 2, sums.bad(2));
        Check.due("13: modulo the greatest", 2, sums.bad(Integer.MAX_VALUE));
        for (int wrong : new int[] {1, 0, -1, -3, Integer.MIN_VALUE}) {
            Check.due("13: n " + wrong, -1, sums.bad(wrong));
        }
        Scene.addPiece(sums, "#", "#");
        Check.due("13: the same piece twice", 4, sums.bad(2));
        Scene.addPiece(sums, "#");
        Check.due("13: and single cells", 7, sums.bad(2));
        sums.piece();
        Check.due("13: a piece without squares", 7, sums.bad(2));
        sums.cell(0, 0, false);
        Check.due("13: a cell goes", 4, sums.bad(2));
    }

    private static void promise14Proves() {
        ColourSums sums = Scene.shapeOf("###", "##.");
        Scene.addPiece(sums, "##");
        Check.due("14: all 0", false, sums.proves(2));
        int[] weights = {1, -1, 1, -1, 1};
        for (int c = 0; c < 5; c++) {
            sums.own(c % 3, c / 3, weights[c]);
        }
        Check.due("14: modulo 2", true, sums.proves(2));
        Check.due("14: modulo 1000", true, sums.proves(1000));
        for (int wrong : new int[] {1, 0, -1, -2, Integer.MIN_VALUE}) {
            Check.due("14: n " + wrong, false, sums.proves(wrong));
        }
        sums.own(2, 1, 50);
        Check.due("14: a cell that is not of the shape", true, sums.proves(7));
        sums.own(0, 0, 2);
        Check.due("14: a placement that does not sum to 0", false, sums.proves(7));
        sums.own(0, 0, 1);
        sums.cell(2, 1, true);
        sums.own(2, 1, -1);
        Check.due("14: the shape sums to 0", false, sums.proves(7));
        ColourSums single = Scene.shapeOf("#");
        single.own(0, 0, -6);
        Check.due("14: no piece, -6 modulo 4", true, single.proves(4));
        Check.due("14: no piece, -6 modulo 3", false, single.proves(3));
        Check.due("14: the empty shape", false, new ColourSums(2, 2).proves(2));
    }

    private static void promise15Border() {
        ColourSums sums = new ColourSums(3, 3);
        Check.due("15: the empty shape", "", Scene.wordOf(sums));
        sums.cell(2, 2, true);
        Check.due("15: one cell", "0123", Scene.wordOf(sums));
        sums.cell(2, 1, true);
        Check.due("15: two cells", "011233", Scene.wordOf(sums));
        Check.due("15: a turn to the left", "0001221233", Scene.wordOf(Scene.shapeOf("###", "#..")));
        Check.due("15: wider below", "011011223333", Scene.wordOf(Scene.shapeOf("#.", "#.", "##", "##")));
        Check.due("15: begins at the least cell", "01122303", Scene.wordOf(Scene.shapeOf(".#", "##")));
        Check.due("15: a hole is not gone round", "000111222333", Scene.wordOf(Scene.shapeOf("###", "#.#", "###")));
        Check.due("15: another part is not gone round", "0123", Scene.wordOf(Scene.shapeOf("#.#")));
        ColourSums full = Scene.shapeOf(Scene.FULL);
        Check.due("15: 24 sides", "000000111111222222333333", Scene.wordOf(full));
        for (int wrong : new int[] {-1, 24, 84, 1000, Integer.MAX_VALUE, Integer.MIN_VALUE}) {
            Check.due("15: letter " + wrong, -1, full.border(wrong));
        }
        full.cell(0, 0, false);
        Check.due("15: a corner goes", "000001111112222223333303", Scene.wordOf(full));
    }

    private static void promise15BorderAtACrossing() {
        Check.due("15: right at a crossing", "0123", Scene.wordOf(Scene.shapeOf("#.", ".#")));
        Check.due("15: right at a crossing, into the hole", "0011122233010323",
                Scene.wordOf(Scene.shapeOf(".##", "#.#", "###")));
    }

    private static void promise16Runs() {
        ColourSums sums = new ColourSums(3, 3);
        Check.due("16: the empty shape", 0, sums.runs(2));
        sums.cell(1, 1, true);
        for (int m = 2; m <= 9; m++) {
            Check.due("16: one cell modulo " + m, 4, sums.runs(m));
        }
        for (int wrong : new int[] {1, 0, -1, -2, 10, 11, Integer.MAX_VALUE, Integer.MIN_VALUE}) {
            Check.due("16: m " + wrong, -1, sums.runs(wrong));
        }
        // 000 1 222 3: modulo 3 the bars go, then 1 and 3 are one run, that goes too.
        ColourSums bar = Scene.shapeOf("###");
        Check.due("16: a bar of 3 modulo 3", 0, bar.runs(3));
        Check.due("16: a bar of 3 modulo 2", 4, bar.runs(2));
        Check.due("16: a bar of 3 modulo 4", 4, bar.runs(4));
        // 000 1 2 1 22 33 modulo 3: the first run left and the last are of one axis, but no neighbours.
        Check.due("16: the end is no neighbour of the beginning", 5, Scene.shapeOf("###", "##.").runs(3));
        bar.cell(2, 0, false);
        Check.due("16: after a change, modulo 3", 4, bar.runs(3));
        Check.due("16: after a change, modulo 2", 0, bar.runs(2));
        ColourSums full = Scene.shapeOf(Scene.FULL);
        int[] due = {0, 0, 4, 4, 0, 4, 4, 4};
        for (int m = 2; m <= 9; m++) {
            Check.due("16: 6 by 6 modulo " + m, due[m - 2], full.runs(m));
        }
    }

    private static void promise17Run() {
        ColourSums one = Scene.shapeOf("#");
        Check.due("17: one cell modulo 2", "2 3 2 3 ", Scene.runsOf(one, 2));
        Check.due("17: one cell modulo 9", "2 3 16 17 ", Scene.runsOf(one, 9));
        Check.due("17: a bar of 3 modulo 4", "6 3 2 7 ", Scene.runsOf(Scene.shapeOf("###"), 4));
        Check.due("17: modulo 3, open at the ends", "3 4 3 2 3 ", Scene.runsOf(Scene.shapeOf("###", "##."), 3));
        Check.due("17: modulo 2, runs that met", "2 3 2 3 ", Scene.runsOf(Scene.shapeOf("###", "##."), 2));
        for (int wrong : new int[] {-1, 4, 84, Integer.MAX_VALUE, Integer.MIN_VALUE}) {
            Check.due("17: k " + wrong, -1, one.run(5, wrong));
        }
        for (int wrong : new int[] {1, 0, -1, 10, Integer.MAX_VALUE, Integer.MIN_VALUE}) {
            Check.due("17: m " + wrong, -1, one.run(wrong, 0));
            Check.due("17: m " + wrong + ", k -1", -1, one.run(wrong, -1));
        }
        Check.due("17: the empty shape", -1, new ColourSums(1, 1).run(2, 0));
        Check.due("17: another modulus between", 4, one.runs(2));
        Check.due("17: it does not stay", 16, one.run(9, 2));
    }
}
