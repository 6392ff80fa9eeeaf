import java.io.IOException;
import java.nio.file.Files;
import java.nio.file.Path;
import java.util.Set;
import java.util.regex.Matcher;
import java.util.regex.Pattern;

/** What of LANGUAGE.md's rules can be seen in the class's source: 3, 4, 6, 10, 11, 13 and no package. */
public final class FormTest {
    private static final Set<String> LIBRARY = Set.of("Arrays.fill", "Integer.bitCount", "Long.bitCount", "Math.floorMod", "Math.max",
            "Math.min", "System.arraycopy");
    private static final String[] REFUSED = {"throw", "throws", "try", "catch", "finally", "synchronized", "assert", "instanceof", "package",
        "double", "float", "var", "goto", "native", "volatile", "transient", "protected"};
    private static final int MOST_LINES = 60;

    public static void main(String[] args) throws IOException {
        Due.topic("form");
        String source = Files.readString(Path.of("src/main/java/AyeJars.java"));
        String code = withoutComments(source);
        words(code);
        library(code);
        methods(code);
        Due.close("FormTest");
    }

    /** Comments and what stands within quotes go, lines stay. */
    private static String withoutComments(String source) {
        String code = Pattern.compile("/\\*.*?\\*/", Pattern.DOTALL).matcher(source)
                .replaceAll(found -> found.group().replaceAll("[^\n]", ""));
        return code.replaceAll("//[^\n]*", "").replaceAll("\"[^\"\n]*\"", "\"\"").replaceAll("'[^'\n]'", "' '");
    }

    private static void words(String code) {
        for (String word : REFUSED) {
            Due.is("the word " + word, Pattern.compile("\\b" + word + "\\b").matcher(code).find(), false);
        }
        Due.is("a lambda", code.contains("->"), false);
        Due.is("a method reference", code.contains("::"), false);
        Due.is("an annotation", code.contains("@"), false);
        Due.is("texts joined by a sign", Pattern.compile("\"\\s*\\+|\\+\\s*\"").matcher(code).find(), false);
        Due.is("rows of rows of rows", code.contains("[][][]"), false);
        Due.is("public classes", Pattern.compile("public final class").matcher(code).results().count(), 1);
    }

    /** Only the library that is named above, a part of what LANGUAGE.md's rule 4 lists. */
    private static void library(String code) {
        Matcher imports = Pattern.compile("(?m)^import (.*);").matcher(code);
        while (imports.find()) {
            Due.is("import " + imports.group(1), imports.group(1).equals("java.util.Arrays"), true);
        }
        Matcher calls = Pattern.compile("\\b(?:Arrays|Integer|Long|Math|System|Character|Byte|Short|Boolean|String|Objects)\\.\\w+").matcher(code);
        while (calls.find()) {
            Due.is(calls.group(), LIBRARY.contains(calls.group()), true);
        }
        Due.is("a full name", Pattern.compile("(?m)^(?!import ).*\\bjavax?\\.").matcher(code).find(), false);
    }

    private static void methods(String code) {
        String[] lines = code.split("\n");
        Pattern head = Pattern.compile("^( {4}| {8})(?=\\S)(?!.*\\b(?:class|return|new|else|if|for|while|switch)\\b).*\\) \\{$");
        int count = 0;
        for (int i = 0; i < lines.length; i++) {
            Matcher found = head.matcher(lines[i]);
            if (!found.find()) {
                continue;
            }
            count++;
            int last = i;
            while (last < lines.length && !lines[last].equals(found.group(1) + "}")) {
                last++;
            }
            Due.is("line " + (i + 1) + ": " + (last - i + 1) + " lines", last - i + 1 <= MOST_LINES, true);
        }
        Due.is("methods found: " + count, count > 150, true);
    }
}
