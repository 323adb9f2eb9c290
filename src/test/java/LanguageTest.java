import java.nio.file.Files;
import java.nio.file.Path;
import java.util.List;
import java.util.regex.Matcher;
import java.util.regex.Pattern;

/** Those rules of LANGUAGE.md that can be seen in the text of the class. */
public final class LanguageTest {
    private static final Path SOURCE = Path.of("src/main/java/ArborescenceFinder.java");
    private static final String[] FORBIDDEN = {
        "throw", "throws", "try", "catch", "finally", "synchronized", "assert", "volatile", "transient",
        "native", "import", "package", "protected", "Random", "Thread", "currentTimeMillis", "nanoTime",
        "hashCode", "getClass", "Object", "double", "float"};
    private static final int LONGEST_METHOD = 60;

    private static int wrong;

    private static void fault(String what) {
        wrong++;
        System.out.println(what);
    }

    public static void main(String[] args) throws Exception {
        String source = Files.readString(SOURCE);
        String code = source.replaceAll("(?s)/\\*.*?\\*/", "").replaceAll("//[^\n]*", "");
        for (String word : FORBIDDEN) {
            if (Pattern.compile("\\b" + word + "\\b").matcher(code).find()) {
                fault("the word " + word + " stands in the class");
            }
        }
        for (String sign : List.of("->", "::", "@", "\"")) {
            if (code.contains(sign)) {
                fault("the sign " + sign + " stands in the class");
            }
        }
        if (!source.chars().allMatch(c -> c < 128)) {
            fault("a sign beyond 127 stands in the class");
        }
        library(code);
        methodLengths(source.split("\n"));
        System.out.println(wrong == 0 ? "the class keeps to the rules" : wrong + " faults");
        if (wrong != 0) {
            System.exit(1);
        }
    }

    private static void library(String code) {
        Matcher call = Pattern.compile("\\b([A-Z][A-Za-z]*[a-z][A-Za-z]*)\\.([A-Za-z]+)").matcher(code);
        List<String> allowed = List.of("System.arraycopy", "Math.max");
        while (call.find()) {
            if (!allowed.contains(call.group())) {
                fault(call.group() + " is not among what the class uses");
            }
        }
    }

    /** A method ends with a brace as far to the right as its head. */
    private static void methodLengths(String[] lines) {
        Pattern head = Pattern.compile("^( {4}| {8})(?!private static final class)[a-z][^=;]*\\) \\{$");
        for (int i = 0; i < lines.length; i++) {
            Matcher found = head.matcher(lines[i]);
            if (!found.find() || lines[i].trim().matches("(if|for|while|switch)\\b.*")) {
                continue;
            }
            int end = i;
            while (end < lines.length && !lines[end].equals(found.group(1) + "}")) {
                end++;
            }
            if (end - i + 1 > LONGEST_METHOD) {
                fault("the method of line " + (i + 1) + " has " + (end - i + 1) + " lines");
            }
        }
    }
}
