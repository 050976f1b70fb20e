import java.io.IOException;
import java.nio.charset.StandardCharsets;
import java.nio.file.Files;
import java.nio.file.Path;
import java.util.LinkedHashMap;
import java.util.Map;

/** What README.md says of its example is what the class answers; .ci/run starts it where README.md lies. */
public final class ReadmeTest {
    public static void main(String[] args) throws IOException {
        Map<String, Object> answers = answersOfTheExample();
        Map<String, String> told = answersToldBy(Files.readString(Path.of("README.md"), StandardCharsets.UTF_8));
        Check.due("calls whose answer README.md tells", answers.keySet(), told.keySet());
        for (Map.Entry<String, Object> each : answers.entrySet()) {
            Check.due("README.md: " + each.getKey(), String.valueOf(each.getValue()), told.get(each.getKey()));
        }
        Check.due("README.md: the text", "beb;", Scene.textOf(example()));
        Check.due("README.md: the word", "00012223", Scene.wordOf(example()));
        Check.end();
    }

    private static ColourSums example() {
        ColourSums sums = Scene.shapeOf("###");
        Scene.addPiece(sums, "##");
        sums.colour(5);
        sums.own(0, 0, 1);
        sums.own(1, 0, -1);
        sums.own(2, 0, 1);
        return sums;
    }

    private static Map<String, Object> answersOfTheExample() {
        ColourSums sums = example();
        Map<String, Object> answers = new LinkedHashMap<>();
        answers.put("placements(domino)", sums.placements(0));
        answers.put("placement(domino, 1, 0)", sums.placement(0, 1, 0));
        answers.put("sizes()", sums.sizes());
        answers.put("colour(5)", sums.colour(5));
        answers.put("weight(1, 0)", sums.weight(1, 0));
        answers.put("text(0)", "'" + (char) sums.text(0) + "'");
        answers.put("sum()", sums.sum());
        answers.put("bad(2)", sums.bad(2));
        answers.put("proves(2)", sums.proves(2));
        answers.put("border(3)", sums.border(3));
        answers.put("runs(5)", sums.runs(5));
        answers.put("run(5, 2)", sums.run(5, 2));
        answers.put("runs(3)", sums.runs(3));
        return answers;
    }

    /** The example's lines 'sums.call(..); // answer', without what follows the answer. */
    private static Map<String, String> answersToldBy(String readme) {
        Map<String, String> told = new LinkedHashMap<>();
        int begin = readme.indexOf("sums.placements(");
        int end = readme.indexOf("```", Math.max(0, begin));
        if (begin < 0 || end < 0) {
            return told;
        }
        for (String line : readme.substring(begin, end).split("\n")) {
            int semicolon = line.indexOf("; ");
            int comment = line.indexOf("// ");
            if (semicolon > 0 && comment > 0 && !line.startsWith("sums.own(")) {
                told.put(line.substring("sums.".length(), semicolon), line.substring(comment + 3).split("[ :,]")[0]);
            }
        }
        return told;
    }
}
