import java.io.IOException;
import java.nio.file.Files;
import java.nio.file.Path;
import java.util.ArrayList;
import java.util.List;
import java.util.Map;
import java.util.TreeMap;

/**
 * The sentences of the document, read from it. Each test names the sentence that it is for, word by
 * word; a sentence that no test names counts as wrong, and so does a test that checks nothing.
 */
final class Sentences {
    private static final Path DOCUMENT = Path.of("../shared/DOC.md");
    private static final int TERMS = 0;

    /** The text of each promise, and of the terms under 0. */
    private final Map<Integer, String> whole = new TreeMap<>();
    /** What no test has named yet. */
    private final Map<Integer, String> rest = new TreeMap<>();
    private int tests = 0;

    Sentences() throws IOException {
        List<String> paragraph = new ArrayList<>();
        int section = -1;
        for (String line : Files.readAllLines(DOCUMENT)) {
            if (line.startsWith("## ")) {
                section = sectionOf(line);
            } else if (line.isBlank()) {
                keep(section, paragraph);
            } else if (!line.startsWith("<h2>")) {
                paragraph.add(line);
            }
        }
        keep(section, paragraph);
        rest.putAll(whole);
        Check.same("promises in the document", whole.size(), 59);
    }

    private static int sectionOf(String heading) {
        if (heading.startsWith("## Promise ")) {
            return Integer.parseInt(heading.substring(11, heading.indexOf(':')));
        }
        return heading.equals("## Terms") || heading.equals("## What it is") ? TERMS : -1;
    }

    private void keep(int section, List<String> paragraph) {
        for (String part : parts(paragraph)) {
            boolean isParameter = section != TERMS && part.startsWith("- ");
            if (section >= 0 && (!isParameter || part.contains(", "))) {
                whole.merge(section, plain(part), (text, more) -> text + "\n" + more);
            }
        }
        paragraph.clear();
    }

    /** A list of parameters has a part for each, any other paragraph is one. */
    private static List<String> parts(List<String> paragraph) {
        if (paragraph.isEmpty() || paragraph.get(0).startsWith("- ")) {
            return paragraph;
        }
        return List.of(String.join(" ", paragraph));
    }

    /** Without the head of a promise, and without the marks of the document's form. */
    private static String plain(String text) {
        boolean isHead = text.matches("(- `\\w+`|`[^`]*\\)[^`]*`): .*");
        String body = isHead ? text.replaceFirst("[^`]*`[^`]*`: ", "") : text;
        return body.replace("`", "").replaceAll("\\s+", " ");
    }

    void term(String sentence, Runnable test) {
        tell(TERMS, sentence, test);
    }

    void promise(int number, String sentence, Runnable test) {
        tell(number, sentence, test);
    }

    private void tell(int section, String sentence, Runnable test) {
        String name = (section == TERMS ? "Terms" : "Promise " + section) + ": " + sentence;
        Check.about(name);
        Check.yes("it stands in the document", whole.get(section).contains(sentence));
        rest.put(section, rest.get(section).replace(sentence, "\n"));
        int checksBefore = Check.count();
        test.run();
        Check.yes("its test checks something", Check.count() > checksBefore);
        Check.about("");
        tests++;
    }

    /** What the terms begin with tells no more than what follows them there. */
    void leaveOut(String words) {
        Check.yes("it stands in the document: " + words, rest.get(TERMS).contains(words));
        rest.put(TERMS, rest.get(TERMS).replace(words, "\n"));
    }

    void end() {
        rest.forEach((section, text) -> Check.same("sentences without a test, section " + section,
                text.replaceAll("\\s+", " ").trim(), ""));
        System.out.println(tests + " tests of sentences");
    }
}
