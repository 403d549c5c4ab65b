import java.io.IOException;
import java.nio.file.Files;
import java.nio.file.Path;
import java.util.List;
import java.util.Set;
import java.util.regex.Matcher;
import java.util.regex.Pattern;

/** Looks through the source for what LANGUAGE.md leaves out. Run in the project's folder. */
public final class RulesTest {
    private static final Due DUE = new Due("RulesTest");
    private static final Path SOURCE = Path.of("src/main/java/MorningBill.java");
    private static final String[] LEFT_OUT = {
        "\\bpackage\\b", "\\bimport\\b", "\\bthrows?\\b", "\\btry\\b", "\\bcatch\\b", "\\bfinally\\b",
        "\\bsynchronized\\b", "\\bassert\\b", "->", "::", "\\w+Exact\\b", "\\bhashCode\\b", "\\btoString\\b",
        "\\bprotected\\b", "\\bvolatile\\b", "\\bnative\\b", "\\bstatic\\s*\\{", "\\bObject\\b", "\\bvar\\b",
        "\\bdouble\\b", "\\bfloat\\b", "\\bnull\\b", "\\?\\s*extends\\b", "@",
    };
    private static final Set<String> LIBRARY = Set.of("Integer.bitCount", "Math.abs", "Math.max", "Math.min",
        "System.arraycopy");
    private static final Set<String> MADE_IN_CONSTRUCTORS = Set.of("new Morning()");

    public static void main(String[] args) throws IOException {
        String source = Files.readString(SOURCE);
        for (int place = 0; place < source.length(); place++) {
            if (source.charAt(place) > 127) {
                DUE.is("sign at " + place, source.charAt(place), '?');
            }
        }
        String code = source.replaceAll("(?s)/\\*.*?\\*/", "").replaceAll("//[^\n]*", "");
        leftOut(code);
        library(code);
        made(code);
        lengths(code);
        DUE.end();
    }

    private static void leftOut(String code) {
        for (String each : LEFT_OUT) {
            Matcher found = Pattern.compile(each).matcher(code);
            DUE.holds("the code is without " + each, !found.find());
        }
    }

    private static void library(String code) {
        Matcher calls = Pattern.compile("\\b([A-Z][a-z]\\w*\\.\\w+)").matcher(code);
        while (calls.find()) {
            DUE.holds(calls.group(1) + " is in the library", LIBRARY.contains(calls.group(1)));
        }
    }

    /** Only constructors and what they set out make objects: a line that begins a method's body makes none. */
    private static void made(String code) {
        List<String> lines = code.lines().toList();
        for (String line : lines) {
            boolean field = line.matches("\\s+(private )?final .* = new .*;");
            Matcher makes = Pattern.compile("new \\w+\\([^)]*\\)|new \\w+\\[").matcher(line);
            while (makes.find()) {
                DUE.holds(line.trim(), field || MADE_IN_CONSTRUCTORS.contains(makes.group()));
            }
        }
    }

    private static void lengths(String code) {
        int began = 0;
        int number = 0;
        for (String line : code.lines().toList()) {
            number++;
            if (line.matches("( {4}| {8})\\w.*\\(.*\\) \\{")) {
                began = number;
            }
            if (line.matches("( {4}| {8})\\}") && began > 0) {
                DUE.holds("the method at " + began + " is short", number - began <= 60);
            }
            DUE.holds("line " + number + " is not too long", line.length() <= 120);
        }
        DUE.holds("there are methods", began > 0);
    }
}
