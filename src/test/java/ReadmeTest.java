import java.io.File;
import java.io.IOException;
import java.lang.reflect.Method;
import java.lang.reflect.Modifier;
import java.nio.file.Files;
import java.nio.file.Path;
import java.util.List;
import java.util.regex.Matcher;
import java.util.regex.Pattern;

/** README.md: its examples answer what it tells behind their calls, and it names every call and every test. */
final class ReadmeTest {
    private static final String MAKES = "ControlBench bench = new ControlBench()";
    private static final Pattern INNERMOST_CALL = Pattern.compile("bench\\.(\\w+)\\(([^()]*)\\)");
    private static final Pattern LINE = Pattern.compile("(.*);(?:\\s+// (.*))?");
    private static final Pattern ANSWER = Pattern.compile("-?\\d+|true|false|throws \\w+");

    private static Bench bench;
    private static int examples = 0;
    private static int answersTold = 0;

    public static void main(String[] args) throws IOException {
        List<String> lines = Files.readAllLines(Path.of("README.md"));
        runExamples(lines);
        Bench.expect("examples", examples >= 4 ? "some" : "" + examples, "some");
        Bench.expect("answers told", answersTold >= 4 * examples ? "some" : "" + answersTold, "some");
        namesEveryCall(String.join("\n", lines));
        namesEveryTest(String.join("\n", lines));
        Bench.finish();
    }

    private static void runExamples(List<String> lines) {
        boolean inExample = false;
        for (int n = 0; n < lines.size(); n++) {
            String line = lines.get(n).strip();
            if (line.startsWith("```")) {
                inExample = line.equals("```java");
                examples += inExample ? 1 : 0;
            } else if (inExample && !line.isEmpty()) {
                runLine("README.md, line " + (n + 1), line);
            }
        }
    }

    private static void runLine(String where, String line) {
        Matcher parts = LINE.matcher(line);
        if (!parts.matches()) {
            Bench.expect(where, line, "one statement, with a remark behind it or without");
        } else if (parts.group(1).equals(MAKES)) {
            bench = new Bench(where);
        } else {
            String remark = parts.group(2) == null ? "" : parts.group(2);
            String answer = answer(parts.group(1));
            boolean told = ANSWER.matcher(remark).matches();
            answersTold += told ? 1 : 0;
            Bench.expect(where + ": " + parts.group(1), answer, told ? asBenchTells(remark) : withoutFault(answer));
        }
    }

    /** Calls within a call are asked first, as Java does it. */
    private static String answer(String statement) {
        String left = statement;
        Matcher call = INNERMOST_CALL.matcher(left);
        while (call.find()) {
            String answer = bench.ask(call.group(1), numbers(call.group(2)));
            left = left.substring(0, call.start()) + answer + left.substring(call.end());
            call = INNERMOST_CALL.matcher(left);
        }
        return left;
    }

    private static int[] numbers(String list) {
        String[] texts = list.split(",");
        int[] all = new int[texts.length];
        for (int n = 0; n < texts.length; n++) {
            all[n] = Integer.parseInt(asBenchTells(texts[n].strip()));
        }
        return all;
    }

    private static String asBenchTells(String value) {
        return value.equals("true") ? "1" : value.equals("false") ? "0" : value;
    }

    /** What is due of a line that tells no answer: any but an exception. */
    private static String withoutFault(String answer) {
        return answer.equals(Bench.DONE) || answer.matches("-?\\d+") ? answer : "no exception";
    }

    private static void namesEveryCall(String text) {
        for (Method m : ControlBench.class.getDeclaredMethods()) {
            if (Modifier.isPublic(m.getModifiers()) && !text.contains("`" + m.getName() + "(")) {
                Bench.expect("README.md", "does not name the call " + m.getName(), "names each call");
            }
        }
    }

    private static void namesEveryTest(String text) {
        File[] files = new File("src/test/java").listFiles();
        for (File file : files == null ? new File[0] : files) {
            String name = file.getName().replace(".java", "");
            if (name.endsWith("Test") && !text.contains("\n| " + name + " |")) {
                Bench.expect("README.md", "does not name the test " + name, "names each test");
            }
        }
    }
}
