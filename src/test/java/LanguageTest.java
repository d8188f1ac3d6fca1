import java.nio.file.Files;
import java.nio.file.Path;
import java.util.Map;
import java.util.Set;
import java.util.TreeMap;
import java.util.TreeSet;
import java.util.regex.Matcher;
import java.util.regex.Pattern;

/** The words of the program's source that LANGUAGE.md rules out, as far as a look at the text can tell. */
public final class LanguageTest {
    private static final Due due = new Due("LanguageTest");

    // Rules 2, 4, 6, 13: what must not stand there outside comments.
    private static final String[] BANNED = {
        "\\bthrow\\b", "\\bthrows\\b", "\\btry\\b", "\\bcatch\\b", "\\bsynchronized\\b", "\\bassert\\b", "\\bpackage\\b",
        "->", "::", "\\bvar\\b", "\\bfinally\\b", "\\bvolatile\\b", "\\btransient\\b", "\\bnative\\b", "\\bprotected\\b",
        "Exact\\b", "\\bstatic\\s*\\{", "\\bhashCode\\b", "\\btoString\\b", "\\bObject\\b", "\\bThread\\b", "\\bRandom\\b",
        "\\bNaN\\b", "\"", "@"};

    // Rule 4: of the library's classes these alone.
    private static final Set<String> LIBRARY = Set.of("Arrays", "Math", "Long", "System");

    // Rule 4: and of their members these alone.
    private static final Set<String> MEMBERS = Set.of("Arrays.fill", "Math.max", "Long.MIN_VALUE", "System.arraycopy");

    private static final String HEAD = "( {4}| {8})\\w.*\\(.*\\) \\{";

    public static void main(String[] args) throws Exception {
        String source = Files.readString(Path.of("src/main/java/SkipStones.java"));
        String code = source.replaceAll("(?s)/\\*.*?\\*/", "").replaceAll("//[^\n]*", "");
        for (String banned : BANNED) {
            due.is("times of " + banned, count(code, banned), 0);
        }
        due.is("imports", count(code, "\\bimport\\b"), count(code, "import java\\.util\\.Arrays;"));
        due.is("signs beyond 127", count(source, "[^\\x00-\\x7f]"), 0);
        due.is("arrays of more than one dimension", count(code, "\\]\\s*\\["), 0);
        classes(code);
        members(code);
        methodLengths(code);
        callDepths(code);
        due.end();
    }

    private static int count(String text, String pattern) {
        Matcher matcher = Pattern.compile(pattern).matcher(text);
        int many = 0;
        while (matcher.find()) {
            many++;
        }
        return many;
    }

    private static Set<String> all(String text, String pattern) {
        Matcher matcher = Pattern.compile(pattern).matcher(text);
        Set<String> found = new TreeSet<>();
        while (matcher.find()) {
            found.add(matcher.group(1));
        }
        return found;
    }

    private static void classes(String code) {
        Set<String> own = all(code, "\\bclass (\\w+)");
        due.is("classes are at most twelve: " + own, own.size() <= 12 ? 1 : 0, 1);
        Set<String> used = all(code.replaceAll("import [^;]*;", ""), "\\b([A-Z][a-z]\\w*)\\b");
        used.removeAll(own);
        used.removeAll(LIBRARY);
        due.is("classes that are neither own nor listed: " + used, used.size(), 0);
    }

    private static void members(String code) {
        Set<String> used = all(code.replaceAll("import [^;]*;", ""), "\\b((?:Arrays|Math|Long|System)\\.\\w+)");
        used.removeAll(MEMBERS);
        due.is("members of the library that are not listed: " + used, used.size(), 0);
    }

    /** Rule 11: a method's last line is the } that stands as deep as its head. */
    private static void methodLengths(String code) {
        String[] lines = code.split("\n");
        for (int i = 0; i < lines.length; i++) {
            if (!lines[i].matches(HEAD)) {
                continue;
            }
            int last = lastLine(lines, i);
            due.is("lines of" + lines[i] + " " + (last - i + 1), last - i + 1 <= 60 ? 1 : 0, 1);
        }
    }

    private static int lastLine(String[] lines, int head) {
        String end = lines[head].replaceAll("\\S.*", "") + "}";
        int last = head;
        while (last < lines.length && !lines[last].equals(end)) {
            last++;
        }
        return last;
    }

    /** Rule 11: calls go at most eight deep; methods of one name are looked at as if they were one. */
    private static void callDepths(String code) {
        String[] lines = code.split("\n");
        Map<String, Set<String>> called = new TreeMap<>();
        for (int i = 0; i < lines.length; i++) {
            if (lines[i].matches(HEAD)) {
                String name = lines[i].replaceAll("\\(.*", "").replaceAll(".*\\s", "");
                StringBuilder body = new StringBuilder();
                for (int b = i + 1; b < lastLine(lines, i); b++) {
                    body.append(lines[b]).append('\n');
                }
                called.computeIfAbsent(name, n -> new TreeSet<>()).addAll(all(body.toString(), "\\b(\\w+)\\("));
            }
        }
        due.is("methods were found", called.size() > 60 ? 1 : 0, 1);
        for (String name : called.keySet()) {
            int depth = depth(called, name, 1);
            due.is("calls of " + name + " go " + depth + " deep", depth <= 8 ? 1 : 0, 1);
        }
    }

    private static int depth(Map<String, Set<String>> called, String name, int above) {
        int deepest = above;
        // Far deeper than what is allowed: then methods call one another in a ring.
        if (above < 40) {
            for (String next : called.get(name)) {
                if (called.containsKey(next)) {
                    deepest = Math.max(deepest, depth(called, next, above + 1));
                }
            }
        }
        return deepest;
    }
}
