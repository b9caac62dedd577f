import java.io.IOException;
import java.nio.file.Files;
import java.nio.file.Path;
import java.util.Arrays;
import java.util.Map;
import java.util.TreeMap;
import java.util.function.IntToLongFunction;

/**
 * The sentences of the document, each with the answers that are due by it. A sentence that is told must
 * stand in its section; a section is done when all of its words have been told, each with an answer.
 */
final class Sentences {
    static final int MIN = Integer.MIN_VALUE;
    static final int MAX = Integer.MAX_VALUE;

    private static final Path DOCUMENT = Path.of("../shared/DOC.md");

    private final String test;
    private final Map<String, String> texts = new TreeMap<>();
    private final Map<String, boolean[]> told = new TreeMap<>();
    private String section = "";
    private String sentence = "";
    private int asked;
    private int askedOfSentence;
    private int sentences;
    private int wrong;

    Sentences(String test) throws IOException {
        this.test = test;
        for (String part : Files.readString(DOCUMENT).split("\n## ")) {
            String title = part.lines().findFirst().orElse("").replaceAll(":.*", "");
            String text = part.substring(part.indexOf('\n') + 1).replaceAll("```(text)?", "").replaceAll("`[^`]*`:", "");
            texts.put(title, text.replaceAll("\\s+", " ").strip());
        }
    }

    /** The section that the sentences to come stand in. */
    void in(String title) {
        endSentence();
        section = title;
        if (!texts.containsKey(title)) {
            fail("there is no section " + title);
        }
    }

    void promise(int n) {
        in("Promise " + n);
    }

    /** What the answers to come are due by, word for word. */
    void says(String words) {
        endSentence();
        sentence = words;
        sentences++;
        askedOfSentence = 0;
        String text = texts.getOrDefault(section, "");
        boolean[] marks = told.computeIfAbsent(section, title -> new boolean[text.length()]);
        int at = text.indexOf(words);
        while (at >= 0 && marks[at]) {
            int next = text.indexOf(words, at + 1);
            if (next < 0) {
                break;
            }
            at = next;
        }
        if (at < 0) {
            fail("the document does not say so");
            return;
        }
        Arrays.fill(marks, at, at + words.length(), true);
    }

    void due(String call, long got, long want) {
        asked++;
        askedOfSentence++;
        if (got != want) {
            fail(call + " answered " + got + ", due is " + want);
        }
    }

    void due(String call, String got, String want) {
        asked++;
        askedOfSentence++;
        if (!got.equals(want)) {
            fail(call + " answered " + got + ", due is " + want);
        }
    }

    /** Numbers from the first to the last are taken, the next ones and the farthest are answered by -2. */
    void bounds(String call, int first, int last, IntToLongFunction ask) {
        for (int v = first; v <= last; v++) {
            asked++;
            askedOfSentence++;
            if (ask.applyAsLong(v) == -2) {
                fail(call + " of " + v + " answered -2");
            }
        }
        for (int v : new int[] {first - 1, last + 1, MIN, MAX, MIN + 1, 1 << 16, -(1 << 16)}) {
            due(call + " of " + v, ask.applyAsLong(v), -2);
        }
    }

    interface OfTwo {
        long at(int folk, int other);
    }

    /** Of a hill with three FOLK: any two are taken, none twice, nor who is not there. */
    void twoOfThree(String call, OfTwo ask) {
        bounds(call + "(0, other)", 1, 2, other -> ask.at(0, other));
        bounds(call + "(2, other)", 0, 1, other -> ask.at(2, other));
        bounds(call + "(folk, 0)", 1, 2, folk -> ask.at(folk, 0));
        bounds(call + "(folk, 2)", 0, 1, folk -> ask.at(folk, 2));
        due(call + "(1, 1)", ask.at(1, 1), -2);
        due(call + "(3, 3)", ask.at(3, 3), -2);
        due(call + "(-1, -1)", ask.at(-1, -1), -2);
        due(call + "(0, 3)", ask.at(0, 3), -2);
        due(call + "(3, 0)", ask.at(3, 0), -2);
    }

    private void fail(String what) {
        wrong++;
        System.out.println(section + ", \"" + sentence + "\": " + what);
    }

    private void endSentence() {
        if (!sentence.isEmpty() && askedOfSentence == 0) {
            fail("is told without an answer");
        }
        sentence = "";
    }

    /** Ends with exit code 1 if an answer was wrong or a word of the sections was left out. */
    void finish() {
        endSentence();
        for (String title : told.keySet()) {
            String text = texts.getOrDefault(title, "");
            StringBuilder left = new StringBuilder();
            for (int i = 0; i < text.length(); i++) {
                left.append(told.get(title)[i] ? ' ' : text.charAt(i));
            }
            String words = left.toString().replaceAll("\\s+", " ").strip();
            if (words.chars().anyMatch(Character::isLetterOrDigit)) {
                wrong++;
                System.out.println(title + ": untold is " + words);
            }
        }
        System.out.println(test + ": " + told.size() + " sections, " + sentences + " sentences, " + asked
            + " answers asked, " + wrong + " wrong");
        if (wrong > 0) {
            System.exit(1);
        }
    }
}
