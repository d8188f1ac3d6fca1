import java.lang.reflect.Method;
import java.lang.reflect.Modifier;
import java.nio.file.Files;
import java.nio.file.Path;
import java.util.HashMap;
import java.util.Map;
import java.util.regex.Matcher;
import java.util.regex.Pattern;
import java.util.stream.Stream;

/** README.md's example answers what stands behind its lines, and README.md leaves no call and no test out. */
public final class ReadmeTest {
    private static final Due due = new Due("ReadmeTest");
    private static final Pattern CALL = Pattern.compile("(?:(?:int|long) (\\w+) = )?s\\.(\\w+)\\(([^()]*)\\);");
    private static final Pattern ANSWER = Pattern.compile("// (-?[0-9]+)(?::.*)?");

    private final SkipStones s = new SkipStones();
    private final Map<String, Integer> told = new HashMap<>();

    public static void main(String[] args) throws Exception {
        String readme = Files.readString(Path.of("README.md"));
        new ReadmeTest().run(readme);
        try (Stream<Path> files = Files.list(Path.of("src/test/java"))) {
            files.map(file -> file.getFileName().toString().replace(".java", "")).filter(name -> name.endsWith("Test"))
                .forEach(name -> due.is(name + " is told of", readme.contains("| " + name + " |") ? 1 : 0, 1));
        }
        due.end();
    }

    private void run(String readme) throws Exception {
        int start = readme.indexOf("```java\n");
        int end = readme.indexOf("\n```", start);
        due.is("there is an example", start >= 0 && end > start ? 1 : 0, 1);
        for (String line : readme.substring(start, end).split("\n")) {
            line(line);
        }
        for (Method method : SkipStones.class.getDeclaredMethods()) {
            String name = method.getName();
            if (Modifier.isPublic(method.getModifiers())) {
                boolean isTold = Pattern.compile("(?m)^\\| (\\w+, )*" + name + "(, \\w+)* \\|").matcher(readme).find();
                due.is(name + " is told of", isTold ? 1 : 0, 1);
            }
        }
    }

    /** Runs the calls of a line; the last one's answer stands behind it. */
    private void line(String line) throws Exception {
        Matcher call = CALL.matcher(line);
        int from = 0;
        long answer = 0;
        while (call.find()) {
            answer = answerOf(call.group(2), call.group(3));
            if (call.group(1) != null) {
                told.put(call.group(1), (int) answer);
            }
            from = call.end();
        }
        String rest = line.substring(from).trim();
        if (from == 0) {
            boolean isPlain = rest.isEmpty() || rest.startsWith("//") || rest.startsWith("```")
                || rest.equals("SkipStones s = new SkipStones();");
            due.is("no call: " + line, isPlain ? 1 : 0, 1);
            return;
        }
        Matcher want = ANSWER.matcher(rest);
        boolean isTold = want.matches();
        due.is("an answer is told: " + line, isTold ? 1 : 0, 1);
        if (isTold) {
            due.is(line, answer, Long.parseLong(want.group(1)));
        }
    }

    private long answerOf(String name, String args) throws Exception {
        String[] words = args.isBlank() ? new String[0] : args.split(", ");
        Class<?>[] types = new Class<?>[words.length];
        Object[] numbers = new Object[words.length];
        for (int i = 0; i < words.length; i++) {
            types[i] = int.class;
            numbers[i] = number(words[i]);
        }
        return ((Number) SkipStones.class.getMethod(name, types).invoke(s, numbers)).longValue();
    }

    private int number(String word) {
        if (word.startsWith("'")) {
            return word.charAt(1);
        }
        return told.containsKey(word) ? told.get(word) : Integer.parseInt(word);
    }
}
