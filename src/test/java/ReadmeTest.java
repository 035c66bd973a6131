import java.io.IOException;
import java.nio.file.Files;
import java.nio.file.Path;
import java.util.LinkedHashMap;
import java.util.List;
import java.util.Map;
import java.util.function.Function;

/** The example of README.md: each of its lines is one of these calls, and tells the answer that it really gives. */
public final class ReadmeTest {
    private static final Map<String, Function<MastLog, Object>> CALLS = new LinkedHashMap<>();

    static {
        CALLS.put("log.limit(0, true, 160)", x -> x.limit(0, true, 160));
        CALLS.put("log.read(0, 100)", x -> x.read(0, 100));
        CALLS.put("log.read(0, MastLog.GAP)", x -> x.read(0, MastLog.GAP));
        CALLS.put("log.read(0, 168)", x -> x.read(0, 168));
        CALLS.put("log.look(0, 6)", x -> x.look(0, 6));
        CALLS.put("log.look(0, 1)", x -> x.look(0, 1));
        CALLS.put("log.key(0, 100)", x -> x.key(0, 100));
        CALLS.put("log.ask(0, 0, 3)", x -> x.ask(0, 0, 3));
        CALLS.put("log.mark(0, 3)", x -> x.mark(0, 3));
        CALLS.put("log.marked(1)", x -> x.marked(1));
        CALLS.put("log.order(0)", x -> x.order(0));
        CALLS.put("log.ordered(2)", x -> x.ordered(2));
        CALLS.put("log.drop(0)", x -> x.drop(0));
        CALLS.put("log.at(0, 2)", x -> x.at(0, 2));
    }

    public static void main(String[] args) {
        Cases.run(ReadmeTest.class);
    }

    private static String asWritten(Object answer) {
        if (answer.equals(MastLog.GAP)) {
            return "MastLog.GAP";
        }
        return answer.equals(MastLog.NONE) ? "MastLog.NONE" : answer.toString();
    }

    static void readme_theExampleTellsWhatTheCallsAnswer(Checks checks) throws IOException {
        String text = Files.readString(Path.of("README.md"));
        int start = text.indexOf("```java\n") + "```java\n".length();
        List<String> lines = text.substring(start, text.indexOf("```", start)).lines().toList();
        checks.due("lines of the example", lines.size(), CALLS.size() + 1);
        checks.due(lines.get(0), lines.get(0).equals("MastLog log = new MastLog();"), true);
        MastLog log = new MastLog();
        for (String line : lines.subList(1, lines.size())) {
            String[] parts = line.split("; *// |: ", 3);
            Function<MastLog, Object> call = CALLS.get(parts[0]);
            checks.due("the test knows " + parts[0], call != null, true);
            if (call != null) {
                String answer = asWritten(call.apply(log));
                checks.due(line + " (it answers " + answer + ")", parts[1].equals(answer), true);
            }
        }
    }
}
