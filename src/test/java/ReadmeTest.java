import java.io.ByteArrayOutputStream;
import java.io.IOException;
import java.io.PrintStream;
import java.nio.file.Files;
import java.nio.file.Path;
import java.util.ArrayList;
import java.util.LinkedHashMap;
import java.util.List;
import java.util.Map;
import java.util.regex.Matcher;
import java.util.regex.Pattern;

/** README.md tells every call in the document's words, its example is the program of src/example and prints what it says. */
final class ReadmeTest {
    private static final Path DOCUMENT = Path.of("../shared/DOC.md");
    private static final Path README = Path.of("README.md");
    private static final Path EXAMPLE = Path.of("src/example/java/Example.java");
    private static final Pattern PROMISE = Pattern.compile("## Promise (\\d+): .*\\n\\n`(.*?)( throws .*)?`\\n");
    private static final Pattern CALL = Pattern.compile("(?m)^- `([\\w ]*\\w\\(.*?\\))`: ((?:.|\\n  )*)");

    public static void main(String[] args) throws IOException {
        String readme = Files.readString(README);
        String document = Files.readString(DOCUMENT);
        example(readme);
        calls(readme, document);
        sentences(readme, document);
        howToRun(readme);
        Check.end("ReadmeTest");
    }

    private static void example(String readme) throws IOException {
        Check.due("the example's program", Files.readString(EXAMPLE), block(readme, "```java\n"));
        Check.due("what the example prints", printed(), block(readme, "and prints\n\n```\n"));
    }

    private static String block(String readme, String start) {
        int from = readme.indexOf(start) + start.length();
        return readme.substring(from, Math.max(from, readme.indexOf("```", from)));
    }

    private static String printed() {
        PrintStream console = System.out;
        ByteArrayOutputStream bytes = new ByteArrayOutputStream();
        System.setOut(new PrintStream(bytes, true));
        try {
            Example.main(new String[0]);
        } finally {
            System.setOut(console);
        }
        return bytes.toString().replace("\r\n", "\n");
    }

    /** Every signature of the document stands in README, in its order, with words that the document has at that promise. */
    private static void calls(String readme, String document) {
        Map<String, String> promises = promises(document);
        Map<String, String> told = new LinkedHashMap<>();
        Matcher call = CALL.matcher(readme);
        while (call.find()) {
            told.put(call.group(1), words(call.group(2)));
        }
        Check.due("promises", 61, promises.size());
        Check.due("the calls", String.join("\n", promises.keySet()), String.join("\n", told.keySet()));
        for (Map.Entry<String, String> promise : promises.entrySet()) {
            String answer = told.getOrDefault(promise.getKey(), "");
            for (String sentence : answer.split("(?<=\\.) (?=[A-Z`])")) {
                Check.due(promise.getKey() + ": the document says " + sentence, true,
                    promise.getValue().contains(sentence.replaceAll("\\.$", "")));
            }
            for (String sentence : described(promise.getValue())) {
                Check.due(promise.getKey() + ": README says " + sentence, true, answer.contains(sentence));
            }
        }
    }

    private static Map<String, String> promises(String document) {
        Map<String, String> promises = new LinkedHashMap<>();
        Matcher promise = PROMISE.matcher(document);
        while (promise.find()) {
            int end = document.indexOf("\n## ", promise.end());
            String text = document.substring(promise.end(), end);
            // Without the marks of the document's form: lines of dashes, bullets, and the signs round an exception's name.
            String plain = text.replaceAll("----.*", "").replaceAll("(?m)^- ", "").replaceAll("Throws `(\\w+)`", "Throws $1");
            promises.put(promise.group(2), words(plain));
        }
        return promises;
    }

    /** What a promise does and returns; exceptions that many promises share stand in README once. */
    private static List<String> described(String promise) {
        List<String> sentences = new ArrayList<>();
        for (String sentence : promise.split("(?= Throws )")[0].split("(?<=\\.) (?=[A-Z])")) {
            int parameters = sentence.indexOf(" `");
            sentences.add((parameters >= 0 ? sentence.substring(0, parameters) : sentence).strip());
        }
        return sentences;
    }

    private static String words(String text) {
        return text.replace("@return", "Returns").replaceAll("\\s+", " ").strip();
    }

    /** The sentences about the whole class that a user must know. */
    private static void sentences(String readme, String document) {
        String page = words(readme);
        String whole = words(document);
        for (String start : List.of("The buyer deposits money;", "Held money earns", "Everything is read", "An object is used for",
            "Tokens are words", "There are at most 6 deposits", "The principal is", "The interest pot is", "Held money is both",
            "The states of a milestone", "The last three", "The available money is", "Only the latest 60",
            "A milestone, proof, entry or index", "A parameter that is out", "What is not possible", "A call that throws",
            "Edits are the methods", "Every successful edit", "At most 10 edits", "A successful load()")) {
            int from = whole.indexOf(start);
            Check.due("the document has: " + start, true, from >= 0);
            Matcher end = Pattern.compile("\\. (?=[A-Z#])").matcher(whole);
            if (from >= 0 && end.find(from)) {
                String sentence = whole.substring(from, end.end()).strip();
                Check.due("README says: " + sentence, true, page.contains(sentence));
            }
        }
        for (String fact : List.of("\"rate\" RATE BASIS \";\"", "\"milestone\" NAME AMOUNT PRIORITY \"when\" condition \";\"",
            "both = fact { \"and\" fact }", "\"done\" MILESTONE", "RATE | 0 to 3000", "BASIS | 360 or 365", "FEE | 0 to 2000",
            "GRACE | 0 to 60", "AMOUNT | 1 to 99999", "PRIORITY | 0 to 99", "DAY | 0 to 999", "SUM | 0 to 99999",
            "`NONE` (-1)", "`FULL` (-2)", "`BAD_TEXT` (-3)")) {
            Check.due("README says: " + fact, true, page.contains(fact));
        }
    }

    private static void howToRun(String readme) throws IOException {
        Check.due("README says how to run the tests", true, readme.contains("\n    .ci/run\n"));
        Check.due("and it can be run", true, Files.isExecutable(Path.of(".ci/run")));
        try (var files = Files.list(Path.of("src/test/java"))) {
            files.map(file -> file.getFileName().toString()).filter(name -> name.endsWith("Test.java")).sorted()
                .forEach(name -> Check.due("README names " + name, true, readme.contains("`" + name.replace(".java", "`"))));
        }
    }
}
