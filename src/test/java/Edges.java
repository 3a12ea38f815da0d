import java.io.IOException;
import java.nio.file.Files;
import java.nio.file.Path;
import java.util.Arrays;
import java.util.LinkedHashMap;
import java.util.Map;
import java.util.function.IntUnaryOperator;
import java.util.regex.Matcher;
import java.util.regex.Pattern;

/**
 * Answers that are due by one sentence of the document each. Behind the last one it holds the sentences
 * against the document: each sentence of the promises must have answers of its own.
 */
final class Edges {
    private static final Path DOC = Path.of("../shared/DOC.md");
    private static final Pattern PROMISE = Pattern.compile("## Promise (\\d+): [^\n]*\n+`[^`]*`: ([^\n]*)");
    /** A full stop behind which a sentence begins; ".." is none. */
    private static final Pattern STOP = Pattern.compile("(?<!\\.)\\.(?: (?=[A-Z-])|$)");
    /** Numbers that no act takes, but for those that take any. */
    private static final int[] FAR = {
        Integer.MIN_VALUE, Integer.MIN_VALUE + 1, -65536, -256, 65536, 1 << 30, Integer.MAX_VALUE - 1, Integer.MAX_VALUE,
    };

    private final Dues dues = new Dues("EdgesTest");
    private final Map<String, Integer> promises = new LinkedHashMap<>();
    private final Map<String, Integer> terms = new LinkedHashMap<>();
    private Map<String, Integer> book = promises;
    private String sentence = "";

    /** What follows is due by this sentence of a promise. */
    void promise(int number, String words) {
        begin(promises, number + " " + words);
    }

    /** What follows is due by these words, which stand ahead of the promises. */
    void term(String words) {
        begin(terms, words);
    }

    private void begin(Map<String, Integer> book, String sentence) {
        dues.due(sentence + ": has a test already", book.containsKey(sentence) ? 1 : 0, 0);
        book.put(sentence, 0);
        this.book = book;
        this.sentence = sentence;
    }

    void due(String call, long got, long want) {
        book.merge(sentence, 1, Integer::sum);
        dues.due("\"" + sentence + "\": " + call, got, want);
    }

    /** Each of these answers is the one that is due. */
    void all(String calls, long want, long... got) {
        for (int i = 0; i < got.length; i++) {
            due(calls + ", no. " + i, got[i], want);
        }
    }

    /** An act answers an ERROR to these numbers, and to all that are far off. */
    void refuses(int error, String calls, IntUnaryOperator act, int... numbers) {
        for (int v : numbers) {
            due(calls + " of " + v, act.applyAsInt(v), error);
        }
        for (int v : FAR) {
            due(calls + " of " + v, act.applyAsInt(v), error);
        }
    }

    void end() throws IOException {
        String doc = Files.readString(DOC);
        Map<String, Integer> asked = new LinkedHashMap<>(promises);
        Matcher promise = PROMISE.matcher(doc);
        while (promise.find()) {
            for (String words : STOP.split(promise.group(2).strip())) {
                Integer answers = asked.remove(promise.group(1) + " " + words);
                dues.due("promise " + promise.group(1) + " has a test of: " + words, answers != null && answers > 0 ? 1 : 0, 1);
            }
        }
        for (String left : asked.keySet()) {
            dues.due("no sentence of the document: " + left, 1, 0);
        }
        String ahead = flat(doc.substring(0, Math.max(0, doc.indexOf("## Promise 1:"))));
        for (Map.Entry<String, Integer> term : terms.entrySet()) {
            dues.due("the document says: " + term.getKey(), ahead.contains(flat(term.getKey())) ? 1 : 0, 1);
            dues.due("has answers: " + term.getKey(), term.getValue() > 0 ? 1 : 0, 1);
        }
        System.out.println("EdgesTest: " + promises.size() + " sentences of promises, " + terms.size() + " terms");
        dues.end();
    }

    private static String flat(String text) {
        return String.join(" ", Arrays.asList(text.replace("```text", " ").replace("```", " ").trim().split("\\s+")));
    }
}
