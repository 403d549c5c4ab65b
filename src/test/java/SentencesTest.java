import java.io.IOException;
import java.nio.file.Files;
import java.nio.file.Path;
import java.util.ArrayList;
import java.util.List;
import java.util.regex.Matcher;
import java.util.regex.Pattern;

/**
 * Holds the tests against the document: each sentence that a test names stands there, each word of the terms and of
 * the thirty promises stands in the sentence of some test, and a test is named by its promise's number and is run.
 * Run in the project's folder.
 */
public final class SentencesTest {
    private static final Due DUE = new Due("SentencesTest");
    private static final Path DOCUMENT = Path.of("../shared/DOC.md");
    private static final Path TESTS = Path.of("src/test/java");
    private static final int PROMISES = 30;
    private static final Pattern TEST = Pattern.compile("private static void p(\\d\\d)_(\\w+)\\(\\) \\{");
    private static final Pattern SENTENCE =
            Pattern.compile("DUE\\.sentence\\((\\d+), (\\w+|\"[^\"]*\"(?:\\s*\\+\\s*\"[^\"]*\")*)\\);");

    /** A sentence that a test names. */
    private record Named(int promise, String words) {
    }

    public static void main(String[] args) throws IOException {
        if (!Files.exists(DOCUMENT)) {
            System.out.println("SentencesTest: the document is not there, nothing is held against it");
            return;
        }
        List<Named> named = new ArrayList<>();
        try (var files = Files.list(TESTS)) {
            for (Path file : files.sorted().toList()) {
                if (!file.endsWith("SentencesTest.java") && !file.endsWith("Due.java")) {
                    named.addAll(sentencesOf(file.getFileName().toString(), Files.readString(file)));
                }
            }
        }
        String document = Files.readString(DOCUMENT);
        eachStandsThere(named, document);
        eachPromiseIsWhole(named, document);
        partIsWhole("the terms", terms(document), named);
        DUE.end();
    }

    /** The sentences of a file's tests; each test names one, of its own promise, and is called. */
    private static List<Named> sentencesOf(String file, String source) {
        List<Named> all = new ArrayList<>();
        Matcher test = TEST.matcher(source);
        while (test.find()) {
            Matcher sentence = SENTENCE.matcher(source);
            String name = file + ": p" + test.group(1) + "_" + test.group(2);
            boolean found = sentence.find(test.end()) && source.substring(test.end(), sentence.start()).isBlank();
            DUE.holds(name + " names a sentence in its first line", found);
            DUE.holds(name + " is run", source.contains("\n        p" + test.group(1) + "_" + test.group(2) + "();"));
            if (found) {
                int promise = Integer.parseInt(sentence.group(1));
                DUE.is(name + " is named by its promise's number", Integer.parseInt(test.group(1)), promise);
                all.add(new Named(promise, wordsOf(sentence.group(2), source)));
            }
        }
        return all;
    }

    /** The words, joined where they are told in pieces; a constant's, where one is named. */
    private static String wordsOf(String told, String source) {
        if (told.startsWith("\"")) {
            return told.replaceAll("\"\\s*\\+\\s*\"", "").replace("\"", "");
        }
        String words = "\"[^\"]*\"(?:\\s*\\+\\s*\"[^\"]*\")*";
        Matcher constant = Pattern.compile(" " + told + " =\\s+(" + words + ");").matcher(source);
        return constant.find() ? wordsOf(constant.group(1), source) : "no constant " + told;
    }

    private static String plain(String text) {
        return text.replace("```text", " ").replace("```", " ").replaceAll("==== \\d", " ").replaceAll("\\s+", " ");
    }

    private static String terms(String document) {
        int from = document.indexOf("## Terms") + "## Terms".length();
        int to = document.indexOf("Ahead of the calls");
        return plain(document.substring(from, to));
    }

    /** What a promise's own section says behind the face of the call. */
    private static String promise(String document, int number) {
        Matcher section = Pattern.compile("## Promise " + number + ": [^\n]*\n\n`[^`]*`: ([^\n]*)\n").matcher(document);
        return section.find() ? plain(section.group(1)) : "";
    }

    private static void eachStandsThere(List<Named> named, String document) {
        String head = plain(document.substring(0, document.indexOf("## Terms")));
        for (Named each : named) {
            boolean there = head.contains(each.words) || terms(document).contains(each.words)
                    || promise(document, each.promise).contains(each.words);
            DUE.holds("promise " + each.promise + ": '" + each.words + "' stands in the document", there);
        }
    }

    private static void eachPromiseIsWhole(List<Named> named, String document) {
        for (int number = 1; number <= PROMISES; number++) {
            int promise = number;
            String words = promise(document, number);
            DUE.holds("promise " + number + " stands in the document", !words.isEmpty());
            partIsWhole("promise " + number, words, named.stream().filter(each -> each.promise == promise).toList());
        }
    }

    /** Each word of a part of the document stands in a sentence that a test names. */
    private static void partIsWhole(String name, String part, List<Named> named) {
        StringBuilder rest = new StringBuilder(part);
        for (Named each : named) {
            for (int at = part.indexOf(each.words); at >= 0; at = part.indexOf(each.words, at + 1)) {
                for (int place = at; place < at + each.words.length(); place++) {
                    rest.setCharAt(place, ' ');
                }
            }
        }
        String left = rest.toString().replaceAll("[\\s.;:,()]+", " ").trim();
        DUE.holds(name + ": no test names '" + left + "'", left.isEmpty());
    }
}
