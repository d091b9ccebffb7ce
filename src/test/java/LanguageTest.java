import java.io.IOException;
import java.nio.file.Files;
import java.nio.file.Path;
import java.util.List;
import java.util.regex.Matcher;
import java.util.regex.Pattern;

/** What can be seen from the source of the rules in LANGUAGE.md; the numbers are those of its rules. */
final class LanguageTest {
    private static final String[] FORBIDDEN = {"throw", "throws", "try", "catch", "finally", "synchronized", "assert",
        "hashCode", "toString", "getClass", "hash", "identityHashCode", "volatile", "transient", "native", "var"};
    private static final int MOST_LINES = 60;
    private static final int MOST_PARAMETERS = 7;
    private static final int MOST_CLASSES = 12;
    private static final int MOST_FIELDS = 20;

    public static void main(String[] args) throws IOException {
        List<String> lines = Files.readAllLines(Path.of("src/main/java/BearerKin.java"));
        String source = String.join("\n", lines) + "\n";
        String code = source.replaceAll("(?s)/\\*.*?\\*/", "").replaceAll("//[^\n]*", "")
            .replaceAll("\"[^\"\n]*\"", "\"\"").replaceAll("'[^'\n]'", "' '");
        words(source, code);
        library(code);
        classes(code);
        methods(lines);
        Check.end("LanguageTest");
    }

    private static int many(String code, String pattern) {
        Matcher m = Pattern.compile(pattern).matcher(code);
        int many = 0;
        while (m.find()) {
            many++;
        }
        return many;
    }

    private static void words(String source, String code) {
        for (String word : FORBIDDEN) {
            Check.due("rule 6: " + word, many(code, "\\b" + word + "\\b"), 0);
        }
        Check.due("rule 2: lambdas, method references", many(code, "->|::"), 0);
        Check.due("rule 4: signs of the source", many(source, "[^\\n\\x20-\\x7e]"), 0);
        Check.due("rule 4: Exact", many(code, "\\w+Exact\\b"), 0);
        Check.due("a package line", many(code, "(?m)^package"), 0);
        Check.due("rule 5: static initialisers", many(code, "static\\s*\\{"), 0);
        Check.due("rule 5: static fields that aren't final", many(code, "\\bstatic (?!final|class)[^(;{]*[;=]"), 0);
        Check.due("rule 10: loops without an end of their own", many(code, "while \\(true\\)|for \\([^;]*;\\s*;"), 0);
        Check.due("rule 10: texts joined by +", many(code, "\"\" \\+|\\+ \"\""), 0);
    }

    private static void library(String code) {
        Check.due("imports", many(code, "\\bimport\\b"), 1);
        Check.due("the import", many(code, "import java\\.util\\.Arrays;"), 1);
        Check.due("rule 4: Arrays", many(code, "Arrays\\.(?!copyOf|copyOfRange|fill\\b)\\w+"), 0);
        Check.due("rule 4: Math", many(code, "Math\\.(?!max|min|abs|floorDiv|floorMod)\\w+"), 0);
        Check.due("rule 4: System", many(code, "System\\.(?!arraycopy)\\w+"), 0);
        Check.due("rule 4: Integer", many(code, "Integer\\.(?!MAX_VALUE|MIN_VALUE|compare|max|min|bitCount)\\w+"), 0);
        Check.due("rule 13", many(code, "\\b(Random|Thread|File|Date|Clock|Runtime|nanoTime|currentTimeMillis)\\b"), 0);
    }

    private static void classes(String code) {
        Check.due("rule 11: classes", many(code, "\\bclass \\w+") <= MOST_CLASSES ? 1 : 0, 1);
        Check.due("rule 2: classes inside that aren't static and private",
            many(code, "(?m)^ ++(?!private static final class)[^\n]*\\bclass \\w+"), 0);
        for (Class<?> c : BearerKin.class.getDeclaredClasses()) {
            fields(c);
        }
        fields(BearerKin.class);
    }

    private static void fields(Class<?> c) {
        int fields = 0;
        for (java.lang.reflect.Field f : c.getDeclaredFields()) {
            if (!java.lang.reflect.Modifier.isStatic(f.getModifiers())) {
                fields++;
            }
        }
        Check.due("rule 11: fields of " + c.getName(), fields <= MOST_FIELDS ? 1 : 0, 1);
    }

    /** A method begins with its line of name and parameters, and ends with a brace of the same indent. */
    private static void methods(List<String> lines) {
        Pattern head = Pattern.compile("( +)((?:public|private|static|final) )*[\\w\\[\\]]+(?: \\w+)?\\((.*)\\) \\{");
        int seen = 0;
        for (int i = 0; i < lines.size(); i++) {
            Matcher m = head.matcher(lines.get(i));
            if (!m.matches() || lines.get(i).matches(" +(if|for|while|switch|\\} else).*")) {
                continue;
            }
            seen++;
            int end = i;
            while (end < lines.size() && !lines.get(end).equals(m.group(1) + "}")) {
                end++;
            }
            String name = lines.get(i).trim();
            Check.due("rule 11: lines of " + name, end - i + 1 <= MOST_LINES ? 1 : 0, 1);
            int parameters = m.group(3).isEmpty() ? 0 : m.group(3).split(",").length;
            Check.due("rule 11: parameters of " + name, parameters <= MOST_PARAMETERS ? 1 : 0, 1);
        }
        Check.due("methods were seen", seen > 100 ? 1 : 0, 1);
        System.out.println("LanguageTest: " + seen + " methods");
    }
}
