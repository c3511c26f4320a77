import java.io.IOException;
import java.nio.file.Files;
import java.nio.file.Path;
import java.util.ArrayList;
import java.util.List;
import java.util.regex.Matcher;
import java.util.regex.Pattern;

/**
 * The clauses of the document. A test says which clause it is about before it asks; at the end every clause must have been
 * said with an answer behind it, so that a clause without a test fails the run.
 */
final class Document {
    private static final Path DOCUMENT = Path.of("../shared/DOC.md");
    private static final Pattern PROMISE = Pattern.compile("## Promise (\\d+): .*");

    private static final class Clause {
        final String section;
        final String text;
        int answers = 0;

        Clause(String section, String text) {
            this.section = section;
            this.text = text;
        }
    }

    private static final List<Clause> CLAUSES = read();
    private static Clause present = null;
    private static int answersBefore = 0;

    private Document() {
    }

    /** Sections are WHAT IT IS, TEXT, MONEY and so on, and the numbers of the promises. */
    static void says(String section, String quote) {
        settle();
        present = find(section, quote);
        if (present == null) {
            Check.report(section + " of the document", "nothing like this", quote);
        }
        Check.about(section + ", " + quote);
    }

    static void says(int promise, String quote) {
        says(Integer.toString(promise), quote);
    }

    static void everyClauseIsTested() {
        settle();
        present = null;
        Check.about("the document");
        Check.due("it has clauses enough", true, CLAUSES.size() > 250);
        for (Clause clause : CLAUSES) {
            Check.due("tested: " + clause.section + ", " + clause.text, true, clause.answers > 0);
        }
    }

    private static void settle() {
        if (present != null) {
            int answers = Check.answers() - answersBefore;
            if (answers == 0) {
                Check.report(present.text, "no answer was looked at", "one at least");
            }
            present.answers += answers;
        }
        answersBefore = Check.answers();
    }

    private static Clause find(String section, String quote) {
        Clause found = null;
        for (Clause clause : CLAUSES) {
            if (clause.section.equals(section) && clause.text.equals(quote)) {
                return clause;
            }
            if (clause.section.equals(section) && clause.text.contains(quote) && found == null) {
                found = clause;
            }
        }
        return found;
    }

    private static List<Clause> read() {
        List<Clause> clauses = new ArrayList<>();
        String section = "";
        for (String line : whatIsPromised().split("\n")) {
            Matcher promise = PROMISE.matcher(line);
            if (promise.matches()) {
                section = promise.group(1);
            } else if (line.equals("## What it is")) {
                section = "WHAT IT IS";
            } else if (line.matches("[A-Z ]{4,}")) {
                section = line;
            } else if (line.equals("The constants:")) {
                section = "CONSTANTS";
            } else if (!line.isBlank() && !line.matches("(#|`|----).*")) {
                if (line.startsWith("The constructor and the methods follow")) {
                    section = "SIGNATURES";
                }
                for (String text : line.strip().split("(?<=;) +|(?<=\\.) +(?=[A-Z(@\"])")) {
                    clauses.add(new Clause(section, text));
                }
            }
        }
        return clauses;
    }

    /** The document from its first line, without the class's face (LanguageTest has it) and what is not promised. */
    private static String whatIsPromised() {
        try {
            String document = Files.readString(DOCUMENT);
            return document.substring(0, document.indexOf("## The public face"))
                + document.substring(document.indexOf("## Description"), document.indexOf("## Not promised"));
        } catch (IOException unread) {
            throw new AssertionError(unread);
        }
    }

    public static void main(String[] args) {
        for (Clause clause : CLAUSES) {
            System.out.println(clause.section + " | " + clause.text);
        }
    }
}
