import java.util.Random;

/** Mixed runs of 512 calls, each answer compared with PlainColourSums; the seeds are fixed. */
public final class AgainstPlainTest {
    private static final int RUNS = 400;
    private static final int CALLS = 512;
    private static final int[] PRIMES = {2, 3, 5, 7, 11, 13};

    private final Random random;
    private final String name;
    private final ColourSums sums;
    private final PlainColourSums plain;
    private int calls = 0;

    private AgainstPlainTest(int seed) {
        random = new Random(seed);
        int w = random.nextInt(4) == 0 ? random.nextInt(12) - 2 : 1 + random.nextInt(6);
        int h = random.nextInt(4) == 0 ? random.nextInt(12) - 2 : 1 + random.nextInt(6);
        name = "run " + seed + " on " + w + " by " + h + ": ";
        sums = new ColourSums(w, h);
        plain = new PlainColourSums(w, h);
    }

    public static void main(String[] args) {
        for (int seed = 0; seed < RUNS; seed++) {
            new AgainstPlainTest(seed).wholeRun();
        }
        everySmallPiece();
        Check.end();
    }

    private void wholeRun() {
        fillShape();
        for (int p = random.nextInt(4); p > 0; p--) {
            addPiece();
        }
        while (calls < CALLS) {
            int kind = random.nextInt(40);
            if (kind == 0) {
                fillShape();
            } else if (kind == 1) {
                addPiece();
            } else if (kind < 5) {
                colourAndRead();
            } else if (kind == 5) {
                takeFoundAsOwn();
            } else {
                anyCall();
            }
        }
    }

    // What an object answers after its last call is free, so a run that is at its end asks nothing more.
    private Object same(String call, Check.Call got, Check.Call want) {
        if (calls >= CALLS) {
            return -1;
        }
        calls++;
        Object due = answerOf(want);
        Check.due(name + call, due, answerOf(got));
        return due;
    }

    private static Object answerOf(Check.Call call) {
        try {
            return call.answer();
        } catch (RuntimeException e) {
            return "throws." + e.getClass().getSimpleName() + (Check.isFromMachine(e) ? " by the machine" : "");
        }
    }

    // Now and then a number outside, near or far.
    private int upTo(int bound) {
        int kind = random.nextInt(40);
        if (kind == 0) {
            return random.nextInt();
        }
        return kind == 1 ? -1 : kind == 2 ? bound : random.nextInt(bound);
    }

    private void fillShape() {
        int density = 3 + random.nextInt(8);
        for (int c = 0; c < 36; c++) {
            cell(c % 6, c / 6, random.nextInt(10) < density);
        }
    }

    private void cell(int x, int y, boolean on) {
        same("cell(" + x + ", " + y + ", " + on + ")", () -> sums.cell(x, y, on), () -> plain.cell(x, y, on));
    }

    private void addPiece() {
        Object due = same("piece()", sums::piece, plain::piece);
        int p = due instanceof Integer number ? number : -1;
        int x = random.nextInt(4);
        int y = random.nextInt(4);
        boolean joined = random.nextInt(4) != 0;
        for (int s = 1 + random.nextInt(7); s > 0 && p >= 0; s--) {
            square(p, x, y);
            boolean alongX = random.nextBoolean();
            int step = random.nextBoolean() ? 1 : -1;
            x = joined ? Math.floorMod(alongX ? x + step : x, 4) : random.nextInt(4);
            y = joined ? Math.floorMod(alongX ? y : y + step, 4) : random.nextInt(4);
        }
    }

    private void square(int p, int x, int y) {
        same("square(" + p + ", " + x + ", " + y + ")", () -> sums.square(p, x, y), () -> plain.square(p, x, y));
    }

    private void colourAndRead() {
        int n = PRIMES[random.nextInt(6)];
        same("colour(" + n + ")", () -> sums.colour(n), () -> plain.colour(n));
        for (int k = 0; k < 44; k++) {
            int i = k;
            same("text(" + i + ") of " + n, () -> sums.text(i), () -> plain.text(i));
        }
    }

    private void takeFoundAsOwn() {
        for (int c = 0; c < 36; c++) {
            int x = c % 6;
            int y = c / 6;
            Object weight = answerOf(() -> plain.weight(x, y));
            int v = weight instanceof Integer number ? number : 0;
            same("own(" + x + ", " + y + ", " + v + ")", () -> sums.own(x, y, v), () -> plain.own(x, y, v));
        }
        for (int n : PRIMES) {
            same("bad(" + n + ")", () -> sums.bad(n), () -> plain.bad(n));
            same("proves(" + n + ")", () -> sums.proves(n), () -> plain.proves(n));
        }
    }

    private void anyCall() {
        int a = upTo(6);
        int b = upTo(6);
        int c = upTo(6);
        int n = upTo(15);
        int far = upTo(60);
        switch (random.nextInt(16)) {
            case 0 -> cell(a, b, random.nextBoolean());
            case 1 -> square(upTo(4), upTo(4), upTo(4));
            case 2 -> same("placements(" + a + ")", () -> sums.placements(a), () -> plain.placements(a));
            case 3, 4 -> same("placement(" + a + ", " + far + ", " + c + ")", () -> sums.placement(a, far, c),
                    () -> plain.placement(a, far, c));
            case 5 -> same("sizes()", sums::sizes, plain::sizes);
            case 6 -> same("colour(" + n + ")", () -> sums.colour(n), () -> plain.colour(n));
            case 7 -> same("weight(" + a + ", " + b + ")", () -> sums.weight(a, b), () -> plain.weight(a, b));
            case 8 -> same("text(" + far + ")", () -> sums.text(far), () -> plain.text(far));
            case 9 -> {
                int v = upTo(240) - 120;
                same("own(" + a + ", " + b + ", " + v + ")", () -> sums.own(a, b, v), () -> plain.own(a, b, v));
            }
            case 10 -> same("sum()", sums::sum, plain::sum);
            case 11 -> same("bad(" + n + ")", () -> sums.bad(n), () -> plain.bad(n));
            case 12 -> same("proves(" + n + ")", () -> sums.proves(n), () -> plain.proves(n));
            case 13 -> same("border(" + far + ")", () -> sums.border(far), () -> plain.border(far));
            case 14 -> same("runs(" + n + ")", () -> sums.runs(n), () -> plain.runs(n));
            default -> same("run(" + n + ", " + c + ")", () -> sums.run(n, c), () -> plain.run(n, c));
        }
    }

    // All pieces of up to 6 squares on the full grid: no placement is lost where there are most.
    private static void everySmallPiece() {
        for (int frame = 1; frame < 1 << 16; frame++) {
            if (Integer.bitCount(frame) > 6) {
                continue;
            }
            ColourSums sums = new ColourSums(6, 6);
            PlainColourSums plain = new PlainColourSums(6, 6);
            for (int c = 0; c < 36; c++) {
                sums.cell(c % 6, c / 6, true);
                plain.cell(c % 6, c / 6, true);
            }
            sums.piece();
            plain.piece();
            for (int s = 0; s < 16; s++) {
                if ((frame >> s & 1) == 1) {
                    sums.square(0, s % 4, s / 4);
                    plain.square(0, s % 4, s / 4);
                }
            }
            Check.due("placements of frame " + frame, plain.placements(0), sums.placements(0));
        }
    }
}
