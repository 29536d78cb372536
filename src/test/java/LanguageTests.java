import java.io.IOException;
import java.lang.reflect.Method;
import java.nio.file.Files;
import java.nio.file.Path;
import java.util.List;
import java.util.regex.Matcher;
import java.util.regex.Pattern;

/** Rules of ../shared/LANGUAGE.md that can be seen in the text of the class, from the project's folder. */
public final class LanguageTests {
    private static final String[] FORBIDDEN = {"->", "::", "\\bcatch\\b", "\\bfinally\\b", "\\bimport\\b",
        "\\bpackage\\b", "\\bsynchronized\\b", "\\bassert\\b", "\\btry\\b", "\\bvar\\b", "\\blong\\[\\]\\[\\]\\[\\]",
        "Exact\\(", "\" *\\+", "\\+ *\"", "\\bequals\\(", "\\bhashCode\\b", "System\\.", "\\bObject\\b", "Math\\.random",
        "static (?!final|class)[a-zA-Z\\[\\]]+ \\w+( =|;)", "static \\{"};
    private static int wrong = 0;

    private static void fault(int line, String what) {
        wrong++;
        System.out.println("line " + line + ": " + what);
    }

    public static void main(String[] args) throws IOException {
        List<String> lines = Files.readAllLines(Path.of("src/main/java/Rollover.java"));
        int methodStart = 0;
        int classes = 0;
        for (int k = 0; k < lines.size(); k++) {
            String code = lines.get(k).replaceAll("//.*|/\\*.*|^ *\\*.*", "");
            for (String f : FORBIDDEN) {
                if (Pattern.compile(f).matcher(code).find()) fault(k + 1, "holds " + f);
            }
            if (!code.chars().allMatch(c -> c < 128)) fault(k + 1, "a sign above 127");
            if (code.matches(" {4,8}[a-zA-Z].*\\(.*\\).*\\{ *")) {
                methodStart = k;
                Matcher m = Pattern.compile("\\((.*)\\)").matcher(code);
                if (m.find() && m.group(1).split(",").length > 7) fault(k + 1, "more than 7 parameters");
            }
            if (code.matches(" {4,8}\\}") && k - methodStart > 60) fault(methodStart + 1, "a long method");
            if (code.matches(".*\\bclass \\w+.*\\{")) {
                classes++;
                methodStart = k;
            }
        }
        if (classes > 12) fault(1, classes + " classes");
        noNameTwice();
        System.out.println((wrong == 0 ? "1 passed, 0" : "0 passed, 1") + " failed");
        if (wrong != 0) System.exit(1);
    }

    /** "No private method bears the name of a public one." */
    private static void noNameTwice() {
        for (Method one : Rollover.class.getDeclaredMethods()) {
            for (Method other : Rollover.class.getDeclaredMethods()) {
                if (!one.equals(other) && one.getName().equals(other.getName())) fault(1, "two of " + one.getName());
            }
        }
    }
}
