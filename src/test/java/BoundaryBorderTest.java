/** Promises 15 to 17: each sentence that names a boundary case has a test of its own. */
public final class BoundaryBorderTest {
    private static final int[] NOT_TWO_TO_NINE = {1, 0, -1, -2, -9, 10, 11, 16, 256 + 2, 65536 + 9, Integer.MAX_VALUE,
        Integer.MIN_VALUE};
    // The longest word that a search came upon: 54 letters, many of them round cells that touch by a corner.
    private static final String[] LONG = {"#.####", "##.#.#", "#.#.##", "###..#", "#.####", "##.#.#"};
    private static final String[] STAIRS = {"#.....", "##....", "###...", "####..", "#####.", "######"};
    private static final String[] T = {"###", ".#."};

    public static void main(String[] args) {
        Check.sentence("15: -1 when there is none (the empty SHAPE)", BoundaryBorderTest::noBorderOfNothing);
        Check.sentence("15: -1 when there is none (no such letter)", BoundaryBorderTest::noSuchLetter);
        Check.sentence("Terms: begins at the least cell of THE SHAPE", BoundaryBorderTest::beginsAtTheLeastCell);
        Check.sentence("Terms: on its left one that is not (or none)", BoundaryBorderTest::alongTheGridsEdge);
        Check.sentence("Terms: at each corner it turns right if it may", BoundaryBorderTest::turnsRightIfItMay);
        Check.sentence("Terms: else goes on straight, else turns left", BoundaryBorderTest::straightOrLeft);
        Check.sentence("Terms: it ends when it is where it began", BoundaryBorderTest::endsWhereItBegan);
        Check.sentence("15: as long as it can be", BoundaryBorderTest::longWords);
        Check.sentence("16: -1 when m is not 2 .. 9", BoundaryBorderTest::runsOfOtherNumbers);
        Check.sentence("16: 0 of the empty SHAPE", BoundaryBorderTest::runsOfNothing);
        Check.sentence("Terms: its amount is their sum modulo M", BoundaryBorderTest::amountsModulo);
        Check.sentence("Terms: a run with amount 0 goes", BoundaryBorderTest::runsThatGo);
        Check.sentence("Terms: its neighbours become one run", BoundaryBorderTest::neighboursMeet);
        Check.sentence("Terms: as long as there is one", BoundaryBorderTest::runsGoInTurn);
        Check.sentence("Terms: its last letter is no neighbour of its first one", BoundaryBorderTest::endsDoNotMeet);
        Check.sentence("16: as many as there can be", BoundaryBorderTest::manyRuns);
        Check.sentence("17: -1 when there is none such (k)", BoundaryBorderTest::noSuchRun);
        Check.sentence("17: -1 when there is none such (m)", BoundaryBorderTest::runOfOtherNumbers);
        Check.sentence("17: -1 when there is none such (the empty SHAPE)", BoundaryBorderTest::runOfNothing);
        Check.sentence("17: its axis and 2 times its amount", BoundaryBorderTest::axisAndAmount);
        Check.end();
    }

    private static String word(String... rows) {
        return Scene.wordOf(Scene.shapeOf(rows));
    }

    private static String runs(int m, String... rows) {
        return Scene.runsOf(Scene.shapeOf(rows), m);
    }

    private static void noBorderOfNothing() {
        ColourSums sums = new ColourSums(3, 3);
        for (int i = -1; i < 5; i++) {
            Check.due("the empty shape, border(" + i + ")", -1, sums.border(i));
        }
        sums.cell(1, 1, true);
        Check.due("a cell", "0123", Scene.wordOf(sums));
        sums.cell(1, 1, false);
        for (int i = -1; i < 5; i++) {
            Check.due("empty again, border(" + i + ")", -1, sums.border(i));
        }
    }

    private static void noSuchLetter() {
        ColourSums one = Scene.shapeOf("#");
        ColourSums full = Scene.shapeOf(Scene.FULL);
        Check.due("the last of 4", 3, one.border(3));
        Check.due("the last of 24", 3, full.border(23));
        for (int i : new int[] {-1, -2, -4, 24, 25, 83, 84, 85, 256, -256, Integer.MAX_VALUE, Integer.MIN_VALUE}) {
            Check.due("one cell, border(" + i + ")", -1, one.border(i));
            Check.due("6 by 6, border(" + i + ")", -1, full.border(i));
        }
        Check.due("one cell, border(4)", -1, one.border(4));
        full.cell(0, 0, false);
        for (int c = 2; c < 36; c++) {
            full.cell(c % 6, c / 6, false);
        }
        Check.due("one is left of 6 by 6", "0123", Scene.wordOf(full));
        Check.due("no letter behind, though there was one", -1, full.border(4));
    }

    private static void beginsAtTheLeastCell() {
        for (int least = 0; least < 36; least++) {
            ColourSums sums = new ColourSums(6, 6);
            for (int c = least; c < 36; c++) {
                sums.cell(c % 6, c / 6, true);
            }
            // The rest of the first row, then the whole rows below it, if there are any.
            int x = least % 6;
            int below = 5 - least / 6;
            String due = "0".repeat(6 - x) + "1".repeat(1 + below) + "2".repeat(below > 0 ? 6 : 6 - x)
                    + "3".repeat(below) + "0".repeat(below > 0 ? x : 0) + "3";
            Check.due("cells " + least + " .. 35", due, Scene.wordOf(sums));
        }
        Check.due("the least cell is not the leftmost", "01122303", word(".#", "##"));
        Check.due("the part with the least cell", "001223", word("....", "..##", "....", "#..#"));
        Check.due("the part with the least cell is the right one", "0123", word("..#", "#..", "#.."));
    }

    private static void alongTheGridsEdge() {
        for (int width = 1; width <= 6; width++) {
            for (int height = 1; height <= 6; height++) {
                ColourSums sums = new ColourSums(width, height);
                for (int c = 0; c < width * height; c++) {
                    sums.cell(c % width, c / width, true);
                }
                String due = "0".repeat(width) + "1".repeat(height) + "2".repeat(width) + "3".repeat(height);
                Check.due("the full grid of " + width + " by " + height, due, Scene.wordOf(sums));
            }
        }
        // The end of a row and the start of the next are no neighbours.
        Check.due("a row's end", "0123", word("..#", "#.."));
        Check.due("the whole edge, not the middle", "000111222333", word("###", "#.#", "###"));
    }

    private static void turnsRightIfItMay() {
        Check.due("cells that touch by a corner", "0123", word("#.", ".#"));
        Check.due("cells that touch by the other corner", "0123", word(".#", "#."));
        Check.due("into a hole by its upper left corner", "0011122233010323", word(".##", "#.#", "###"));
        Check.due("into a hole by its lower right corner", "0001123210122333", word("###", "#.#", "##."));
    }

    private static void straightOrLeft() {
        Check.due("straight on along two cells", "001223", word("##"));
        Check.due("left into a bay, and out of it", "010301122233", word("#.#", "###"));
        Check.due("left where cells stick out to the left", "0111232303", word(".#", "##", ".#"));
        Check.due("left at all four corners of a cross", "010121232303", word(".#.", "###", ".#."));
    }

    private static void endsWhereItBegan() {
        for (int c = 0; c < 36; c++) {
            ColourSums sums = new ColourSums(6, 6);
            sums.cell(c % 6, c / 6, true);
            Check.due("cell " + c + " is gone round once", "0123", Scene.wordOf(sums));
        }
        Check.due("back to the beginning from the left below it", "01012221233003", word("..#.", "####", "#..."));
        Check.due("not at the beginning of another part", "0123", word("#.#", "...", "#.#"));
    }

    private static void longWords() {
        String comb = "000000" + "1" + "2" + "11111" + "2" + "33333" + "2" + "11111" + "2" + "33333" + "2" + "11111"
                + "2" + "333333";
        Check.due("a comb", comb, word("######", "#.#.#.", "#.#.#.", "#.#.#.", "#.#.#.", "#.#.#."));
        String spiral = "000000" + "111111" + "222222" + "3333" + "0000" + "11" + "2" + "3" + "22" + "11" + "0000"
                + "3333" + "22222" + "3";
        Check.due("a spiral", spiral, word("######", ".....#", "####.#", "#..#.#", "#....#", "######"));
        ColourSums sums = Scene.shapeOf(LONG);
        PlainColourSums plain = plainOf(LONG);
        for (int i = 0; i < 90; i++) {
            Check.due("the longest word, border(" + i + ")", plain.border(i), sums.border(i));
        }
        Check.due("its last letter", 3, sums.border(53));
        Check.due("behind it", -1, sums.border(54));
    }

    private static PlainColourSums plainOf(String... rows) {
        PlainColourSums plain = new PlainColourSums(rows[0].length(), rows.length);
        for (int y = 0; y < rows.length; y++) {
            for (int x = 0; x < rows[y].length(); x++) {
                if (rows[y].charAt(x) == '#') {
                    plain.cell(x, y, true);
                }
            }
        }
        return plain;
    }

    private static void runsOfOtherNumbers() {
        ColourSums empty = new ColourSums(2, 2);
        ColourSums one = Scene.shapeOf("#");
        for (int m : NOT_TWO_TO_NINE) {
            Check.due("the empty shape, runs(" + m + ")", -1, empty.runs(m));
            Check.due("one cell, runs(" + m + ")", -1, one.runs(m));
        }
        for (int m = 2; m <= 9; m++) {
            Check.due("one cell, runs(" + m + ")", 4, one.runs(m));
        }
    }

    private static void runsOfNothing() {
        ColourSums sums = new ColourSums(3, 3);
        for (int m = 2; m <= 9; m++) {
            Check.due("the empty shape, runs(" + m + ")", 0, sums.runs(m));
            sums.cell(1, 2, true);
            Check.due("one cell, runs(" + m + ")", 4, sums.runs(m));
            sums.cell(1, 2, false);
            Check.due("empty again, runs(" + m + ")", 0, sums.runs(m));
        }
    }

    // 000000 1 222222 3
    private static void amountsModulo() {
        String[] row = {"######"};
        Check.due("6, 1, -6, -1 modulo 4", "4 3 4 7 ", runs(4, row));
        Check.due("6, 1, -6, -1 modulo 5", "2 3 8 9 ", runs(5, row));
        Check.due("6, 1, -6, -1 modulo 7", "12 3 2 13 ", runs(7, row));
        Check.due("6, 1, -6, -1 modulo 8", "12 3 4 15 ", runs(8, row));
        Check.due("6, 1, -6, -1 modulo 9", "12 3 6 17 ", runs(9, row));
    }

    private static void runsThatGo() {
        for (int length = 1; length <= 6; length++) {
            ColourSums row = new ColourSums(length, 1);
            ColourSums column = new ColourSums(1, length);
            for (int c = 0; c < length; c++) {
                row.cell(c, 0, true);
                column.cell(0, c, true);
            }
            for (int m = 2; m <= 9; m++) {
                int due = length % m == 0 ? 0 : 4;
                Check.due("a row of " + length + ", runs(" + m + ")", due, row.runs(m));
                Check.due("a column of " + length + ", runs(" + m + ")", due, column.runs(m));
            }
        }
    }

    private static void neighboursMeet() {
        // 0 111 0 1 22 3333 modulo 3: 111 goes, so that 0 and 0 are one run.
        String[] boot = {"#.", "#.", "#.", "##"};
        Check.due("a boot modulo 3", "4 3 2 5 ", runs(3, boot));
        Check.due("a boot modulo 5", "2 7 2 3 6 3 ", runs(5, boot));
        Check.due("a boot modulo 5, runs", 6, Scene.shapeOf(boot).runs(5));
    }

    private static void runsGoInTurn() {
        // 0 1 0 3 0 11 222 33 modulo 2: 11 goes, then 0 with 222, then 3 meets 33.
        Check.due("a U modulo 2", "2 3 2 3 ", runs(2, "#.#", "###"));
        for (int m : new int[] {2, 3, 6}) {
            Check.due("6 by 6 modulo " + m, "", runs(m, Scene.FULL));
        }
        Check.due("3 by 2 modulo 3", "", runs(3, "###", "###"));
        Check.due("2 by 3 modulo 3", "", runs(3, "##", "##", "##"));
        Check.due("3 by 2 modulo 2", "", runs(2, "###", "###"));
        Check.due("3 by 2 modulo 4", "6 5 2 5 ", runs(4, "###", "###"));
    }

    private static void endsDoNotMeet() {
        // 000 1 2 1 2 3 2 3 modulo 3: 000 goes; the first 1 and the last 3 would be 0 together.
        Check.due("a T modulo 3", "3 4 3 4 5 4 5 ", runs(3, T));
        Check.due("a T modulo 3, runs", 7, Scene.shapeOf(T).runs(3));
        // 0 1 0 1 2 1 2 333 modulo 3: 333 goes; the first 0 and the last 2 would be 0 together.
        Check.due("a T on its side modulo 3", "2 3 2 3 4 3 4 ", runs(3, "#.", "##", "#."));
        // 000 1 2 1 22 33 modulo 3: the first 1 and the last 33 would be one run of 2.
        Check.due("five cells modulo 3", "3 4 3 2 3 ", runs(3, "###", "##."));
    }

    private static void manyRuns() {
        String steps = "2 3 ".repeat(6);
        String[] due = {"", "", "4 5 ", "8 9 ", "", "2 3 ", "4 5 ", "6 7 "};
        for (int m = 2; m <= 9; m++) {
            Check.due("stairs modulo " + m, steps + due[m - 2], runs(m, STAIRS));
        }
        PlainColourSums plain = plainOf(LONG);
        for (int m = 2; m <= 9; m++) {
            StringBuilder all = new StringBuilder();
            for (int k = 0; k < plain.runs(m); k++) {
                all.append(plain.run(m, k)).append(' ');
            }
            Check.due("the longest word modulo " + m, all.toString(), runs(m, LONG));
        }
    }

    private static void noSuchRun() {
        ColourSums sums = Scene.shapeOf(T);
        int[] count = {8, 7, 8, 8, 8, 8, 8, 8};
        for (int m = 2; m <= 9; m++) {
            int runs = count[m - 2];
            Check.due("runs(" + m + ")", runs, sums.runs(m));
            Check.due("the last one modulo " + m, true, sums.run(m, runs - 1) > 0);
            for (int k : new int[] {-1, -2, -8, runs, runs + 1, 84, 256, -256, Integer.MAX_VALUE, Integer.MIN_VALUE}) {
                Check.due("run(" + m + ", " + k + ")", -1, sums.run(m, k));
            }
        }
        Check.due("run 7 modulo 2 is there", 3, sums.run(2, 7));
        Check.due("run 7 modulo 3 is not, though it was modulo 2", -1, sums.run(3, 7));
    }

    private static void runOfOtherNumbers() {
        ColourSums sums = Scene.shapeOf("#");
        for (int m : NOT_TWO_TO_NINE) {
            Check.due("run(2, 0) before", 2, sums.run(2, 0));
            for (int k = -1; k <= 4; k++) {
                Check.due("run(" + m + ", " + k + ")", -1, sums.run(m, k));
            }
        }
    }

    private static void runOfNothing() {
        ColourSums empty = new ColourSums(2, 2);
        ColourSums gone = Scene.shapeOf("###", "###", "###");
        for (int m = 2; m <= 9; m++) {
            for (int k = -1; k <= 4; k++) {
                Check.due("the empty shape, run(" + m + ", " + k + ")", -1, empty.run(m, k));
            }
        }
        Check.due("nothing is left of 3 by 3 modulo 3", -1, gone.run(3, 0));
        Check.due("but modulo 2", 2, gone.run(2, 0));
    }

    private static void axisAndAmount() {
        for (int m = 2; m <= 9; m++) {
            int last = 2 * (m - 1);
            Check.due("1, 1, -1, -1 modulo " + m, "2 3 " + last + " " + (last + 1) + " ", runs(m, "#"));
        }
    }
}
