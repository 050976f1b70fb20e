/** Every call with every mix of numbers at, next to and far beyond the limits, compared with PlainColourSums. */
public final class ExtremesTest {
    private static final int CALLS_OF_AN_OBJECT = 400;
    private static final int[] NUMBERS = {Integer.MIN_VALUE, Integer.MIN_VALUE + 1, -100, -99, -2, -1, 0, 1, 2, 3, 4, 5,
        6, 7, 9, 10, 13, 14, 35, 36, 99, 100, Integer.MAX_VALUE};
    private static final int[][] SIZES = {{1, 1}, {6, 6}, {4, 3}, {Integer.MIN_VALUE, Integer.MAX_VALUE}};

    private final int width;
    private final int height;
    private final int state;
    private ColourSums sums;
    private PlainColourSums plain;
    private int calls = CALLS_OF_AN_OBJECT;

    private ExtremesTest(int width, int height, int state) {
        this.width = width;
        this.height = height;
        this.state = state;
    }

    public static void main(String[] args) {
        for (int[] size : SIZES) {
            for (int state = 0; state < 4; state++) {
                new ExtremesTest(size[0], size[1], state).allCalls();
            }
        }
        Check.end();
    }

    // State 0 is a new object, 1 has a full shape, 2 has pieces too, 3 has all pieces, some full, and a colouring.
    private void freshObject() {
        calls = 0;
        sums = new ColourSums(width, height);
        plain = new PlainColourSums(width, height);
        for (int c = 0; c < 36 && state > 0; c++) {
            int x = c % 6;
            int y = c / 6;
            same("cell", () -> sums.cell(x, y, true), () -> plain.cell(x, y, true));
        }
        for (int p = 0; p < 6 && state > 1; p++) {
            int piece = p;
            if (p < 2 || state == 3) {
                same("piece", () -> sums.piece(), () -> plain.piece());
            }
            for (int s = 0; s < p * 2 && s < 7; s++) {
                int x = s % 4;
                int y = s / 4;
                same("square", () -> sums.square(piece, x, y), () -> plain.square(piece, x, y));
            }
        }
        same("colour", () -> sums.colour(5), () -> plain.colour(5));
    }

    private void same(String call, Check.Call got, Check.Call want) {
        calls++;
        Check.due("state " + state + " on " + width + " by " + height + ": " + call, answerOf(want), answerOf(got));
    }

    private static Object answerOf(Check.Call call) {
        try {
            return call.answer();
        } catch (RuntimeException e) {
            return "throws." + e.getClass().getSimpleName() + (Check.isFromMachine(e) ? " by the machine" : "");
        }
    }

    private void allCalls() {
        for (int a : NUMBERS) {
            ask("placements", a, 0, 0);
            ask("colour", a, 0, 0);
            ask("text", a, 0, 0);
            ask("bad", a, 0, 0);
            ask("proves", a, 0, 0);
            ask("border", a, 0, 0);
            ask("runs", a, 0, 0);
            for (int b : NUMBERS) {
                ask("cell on", a, b, 0);
                ask("weight", a, b, 0);
                ask("cell off", a, b, 0);
                ask("run", a, b, 0);
            }
        }
        for (int a : NUMBERS) {
            for (int b : NUMBERS) {
                for (int c : NUMBERS) {
                    ask("square", a, b, c);
                    ask("placement", a, b, c);
                    ask("own", a, b, c);
                }
            }
        }
    }

    private void ask(String call, int a, int b, int c) {
        if (calls >= CALLS_OF_AN_OBJECT) {
            freshObject();
        }
        String name = call + " " + a + " " + b + " " + c;
        switch (call) {
            case "placements" -> same(name, () -> sums.placements(a), () -> plain.placements(a));
            case "colour" -> same(name, () -> sums.colour(a), () -> plain.colour(a));
            case "text" -> same(name, () -> sums.text(a), () -> plain.text(a));
            case "bad" -> same(name, () -> sums.bad(a), () -> plain.bad(a));
            case "proves" -> same(name, () -> sums.proves(a), () -> plain.proves(a));
            case "border" -> same(name, () -> sums.border(a), () -> plain.border(a));
            case "runs" -> same(name, () -> sums.runs(a), () -> plain.runs(a));
            case "cell on" -> same(name, () -> sums.cell(a, b, true), () -> plain.cell(a, b, true));
            case "cell off" -> same(name, () -> sums.cell(a, b, false), () -> plain.cell(a, b, false));
            case "weight" -> same(name, () -> sums.weight(a, b), () -> plain.weight(a, b));
            case "run" -> same(name, () -> sums.run(a, b), () -> plain.run(a, b));
            case "square" -> same(name, () -> sums.square(a, b, c), () -> plain.square(a, b, c));
            case "placement" -> same(name, () -> sums.placement(a, b, c), () -> plain.placement(a, b, c));
            default -> same(name, () -> sums.own(a, b, c), () -> plain.own(a, b, c));
        }
    }
}
