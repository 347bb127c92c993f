import java.io.IOException;
import java.lang.reflect.Method;
import java.nio.file.Files;
import java.nio.file.Path;
import java.util.ArrayList;
import java.util.LinkedHashSet;
import java.util.List;
import java.util.Map;
import java.util.Set;
import java.util.TreeMap;

/**
 * Holds the tests against the document: each sentence of its promises, of 'Terms' and of 'What it is'
 * has a test, and what a test says that it holds to stands there.
 */
public final class DocTests {
    private static final Path DOC = Path.of("../shared/DOC.md");
    /** 19 promises, 'Terms' and 'What it is'. */
    private static final int PARTS = 21;
    /** In place of a promise's number: the part says nothing that a call could show. */
    private static final int OTHER = -2;
    private static final List<Class<?>> TESTS = List.of(TermsTests.class, RefusalTests.class,
        FormTests.class, RuleTests.class, MapTests.class, ForgettingTests.class);
    /** Sentences of 'Terms' and 'What it is' that ask for nothing by themselves. */
    private static final List<String> NOT_ASKING = List.of("Forms.", "Interviews.", "Roots and rules.",
        "What rules rest on.", "Maps.", "Forgetting.", "Exceptions.",
        "The calls enter interviews, roots and rules, forget, copy and quote, and ask for forms, lines and"
            + " what rests on whom.",
        "IllegalStateException: as the method says.",
        "A dialect atlas: interviews by place, year and informant with forms of sounds, rules of sound"
            + " change by place and year that lead from roots to forms, how far told forms are from them,"
            + " maps with lines between the forms of places, informants who have the right to be"
            + " forgotten, copies at schools that must forget, too, and quotes that stay by number.");

    public static void main(String[] args) throws IOException {
        Map<Integer, Set<String>> sentences = readSentences(Files.readAllLines(DOC));
        // Fewer would mean that the document is not read as it is written.
        int wrong = Math.max(0, PARTS - sentences.size());
        for (Class<?> tests : TESTS) {
            for (Method test : tests.getDeclaredMethods()) {
                wrong += countWrongQuotes(test, sentences);
            }
        }
        wrong += countUntested(sentences);
        System.out.println("DocTests: " + wrong + " sentences without a test, or tests without a sentence");
        if (wrong != 0) {
            System.exit(1);
        }
    }

    // ---- the document

    /** By the promise's number, or what stands in place of one: the sentences there. */
    private static Map<Integer, Set<String>> readSentences(List<String> lines) {
        Map<Integer, Set<String>> sentences = new TreeMap<>();
        int promise = OTHER;
        for (String line : lines) {
            if (line.startsWith("## ")) {
                promise = numberOf(line);
            } else if (promise != OTHER && !line.isBlank()) {
                List<String> found = promise <= Holds.TERMS ? splitText(line) : List.of(cutHead(line));
                sentences.computeIfAbsent(promise, p -> new LinkedHashSet<>()).addAll(found);
            }
        }
        return sentences;
    }

    private static int numberOf(String heading) {
        if (heading.equals("## What it is")) {
            return Holds.WHAT_IT_IS;
        }
        if (heading.equals("## Terms")) {
            return Holds.TERMS;
        }
        return heading.startsWith("## Promise ") ? Integer.parseInt(heading.split("[ :]+")[2]) : OTHER;
    }

    /** Leaves out a method's head, which FaceTests look at. */
    private static String cutHead(String line) {
        return line.replaceFirst("^`[^`]*\\([^`]*\\)[^`]*`: ", "");
    }

    private static List<String> splitText(String line) {
        List<String> found = new ArrayList<>();
        for (String sentence : line.split("(?<=\\.) (?=[A-Z])")) {
            // Where the interface has its comments is nothing that a call could show.
            if (!NOT_ASKING.contains(sentence) && !sentence.startsWith("Ahead of the call")) {
                found.add(sentence);
            }
        }
        return found;
    }

    // ---- the tests

    private static int countWrongQuotes(Method test, Map<Integer, Set<String>> sentences) {
        Holds holds = test.getAnnotation(Holds.class);
        if (holds == null || sentences.getOrDefault(holds.of(), Set.of()).contains(holds.says())) {
            return 0;
        }
        System.out.println(test.getName() + " says what is not in " + holds.of() + ": " + holds.says());
        return 1;
    }

    private static int countUntested(Map<Integer, Set<String>> sentences) {
        int untested = 0;
        for (int promise : sentences.keySet()) {
            for (String sentence : sentences.get(promise)) {
                if (!isTested(promise, sentence)) {
                    System.out.println("no test for " + promise + ": " + sentence);
                    untested++;
                }
            }
        }
        return untested;
    }

    private static boolean isTested(int promise, String sentence) {
        for (Class<?> tests : TESTS) {
            for (Method test : tests.getDeclaredMethods()) {
                Holds holds = test.getAnnotation(Holds.class);
                if (holds != null && holds.of() == promise && holds.says().equals(sentence)) {
                    return true;
                }
            }
        }
        return false;
    }
}
