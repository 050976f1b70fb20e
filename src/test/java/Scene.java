/** Makes objects from rows of text ('#' is a cell or a square) and reads long answers as one text. */
final class Scene {
    static final String[] FULL = {"######", "######", "######", "######", "######", "######"};

    private Scene() {
    }

    static ColourSums shapeOf(String... rows) {
        ColourSums sums = new ColourSums(rows[0].length(), rows.length);
        for (int y = 0; y < rows.length; y++) {
            for (int x = 0; x < rows[y].length(); x++) {
                if (rows[y].charAt(x) == '#') {
                    sums.cell(x, y, true);
                }
            }
        }
        return sums;
    }

    static int addPiece(ColourSums sums, String... rows) {
        int piece = sums.piece();
        for (int y = 0; y < rows.length; y++) {
            for (int x = 0; x < rows[y].length(); x++) {
                if (rows[y].charAt(x) == '#') {
                    sums.square(piece, x, y);
                }
            }
        }
        return piece;
    }

    static String textOf(ColourSums sums) {
        StringBuilder text = new StringBuilder();
        for (int i = 0; i < 50 && sums.text(i) >= 0; i++) {
            text.append((char) sums.text(i));
        }
        return text.toString();
    }

    static String wordOf(ColourSums sums) {
        StringBuilder word = new StringBuilder();
        for (int i = 0; i < 100 && sums.border(i) >= 0; i++) {
            word.append(sums.border(i));
        }
        return word.toString();
    }

    static String runsOf(ColourSums sums, int m) {
        StringBuilder runs = new StringBuilder();
        for (int k = 0; k < sums.runs(m); k++) {
            runs.append(sums.run(m, k)).append(' ');
        }
        return runs.toString();
    }

    static String placementOf(ColourSums sums, int piece, int k) {
        StringBuilder cells = new StringBuilder();
        for (int i = 0; i < 10 && sums.placement(piece, k, i) >= 0; i++) {
            cells.append(sums.placement(piece, k, i)).append(' ');
        }
        return cells.toString();
    }
}
