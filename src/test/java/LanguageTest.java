import java.io.IOException;
import java.nio.file.Files;
import java.nio.file.Path;
import java.util.ArrayList;
import java.util.List;
import java.util.regex.Matcher;
import java.util.regex.Pattern;

/** LANGUAGE.md: what the program's text alone can show of its rules. */
public final class LanguageTest {
    private static final int MOST_METHOD_LINES = 60;
    private static final int MOST_PARAMETERS = 7;
    private static final int MOST_CLASSES = 12;
    private static final Pattern METHOD = Pattern.compile("( +)(?!new |return |else )[\\w<>\\[\\] ]+\\(([^)]*)\\) \\{");

    /** The rule, and what no line of the program may have. */
    private static final String[][] RULED_OUT = {
        {"the file has no package line", "^package "},
        {"2: no lambda", "->"},
        {"2: no method reference", "::"},
        {"4: only what stands there", "^import (?!java\\.util\\.(Arrays|ArrayList|List|Iterator|NoSuchElementException);)"},
        {"4: of System only arraycopy", "\\bSystem\\.(?!arraycopy\\b)"},
        {"4: of Arrays only copyOf, copyOfRange and fill", "\\bArrays\\.(?!copyOf\\(|copyOfRange\\(|fill\\()"},
        {"4: nothing whose name ends in Exact", "\\w+Exact\\("},
        {"4: no library class but those listed", "\\b(Object|Class|Thread|Runtime|Objects|Collections|Map|Set|Random)\\b"},
        {"5: static fields are final", "\\bstatic (?!final )[\\w<>\\[\\]]+ \\w+( =|;)"},
        {"5: no static initialiser block", "\\bstatic \\{"},
        {"6: none of these words", "\\b(finally|synchronized|assert|getMessage|throws)\\b"},
        {"6: no equals, hashCode or toString of own objects", "\\b(equals|hashCode|toString)\\("},
        {"9: a loop's end is seen from its own lines", "for \\(;|; ?;|while \\(true\\)"},
        {"10: texts are not joined by +", "\" \\+|\\+ \""},
        {"13: no clock, randomness, file, network or thread", "java\\.(time|io|nio|net)|\\bvolatile\\b|\\bMath\\.random"}
    };

    public static void main(String[] args) throws IOException {
        Path program = Path.of(System.getProperty("project"), "src/main/java/CollectedGroup.java");
        List<String> code = withoutComments(Files.readAllLines(program));
        for (String[] rule : RULED_OUT) {
            Pattern pattern = Pattern.compile(rule[1]);
            for (String line : code) {
                Check.due("rule " + rule[0] + ": " + line, pattern.matcher(line).find(), false);
            }
        }
        classes(code);
        methods(code);
        Check.end();
    }

    private static List<String> withoutComments(List<String> lines) {
        List<String> code = new ArrayList<>();
        boolean inside = false;
        for (String line : lines) {
            String text = line.strip();
            inside |= text.startsWith("/*");
            code.add(inside || text.startsWith("//") ? "" : line);
            inside &= !text.endsWith("*/");
        }
        return code;
    }

    private static void classes(List<String> code) {
        int found = 0;
        for (String line : code) {
            if (Pattern.compile("\\b(class|record|enum|interface) \\w").matcher(line).find()) {
                found++;
                boolean nested = line.startsWith(" ");
                Check.due("rule 1: " + line, line.contains(nested ? " static " : "public final class"), true);
            }
        }
        Check.due("rule 11: some twelve classes", found <= MOST_CLASSES, true);
    }

    private static void methods(List<String> code) {
        int found = 0;
        for (int k = 0; k < code.size(); k++) {
            Matcher method = METHOD.matcher(code.get(k));
            if (method.matches() && !code.get(k).matches(" +(if|for|while|switch|} else).*")) {
                found++;
                int end = k;
                while (!code.get(end).equals(method.group(1) + "}")) {
                    end++;
                }
                Check.due("rule 11: short " + code.get(k), end - k + 1 <= MOST_METHOD_LINES, true);
                int parameters = method.group(2).isEmpty() ? 0 : method.group(2).split(",").length;
                Check.due("rule 11: parameters " + code.get(k), parameters <= MOST_PARAMETERS, true);
            }
        }
        Check.due("methods found", found > 50, true);
    }
}
