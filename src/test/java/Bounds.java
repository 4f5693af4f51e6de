import java.io.IOException;
import java.math.BigInteger;
import java.nio.file.Files;
import java.nio.file.Path;
import java.util.ArrayList;
import java.util.List;
import java.util.Map;
import java.util.TreeMap;
import java.util.function.Supplier;
import java.util.function.ToIntFunction;

/** What the tests of boundary cases share: each names the sentence of the document that it holds to. */
abstract class Bounds {
    static final int NONE = MouthRiddles.NONE, UNKNOWN = MouthRiddles.UNKNOWN, OUTSIDE = MouthRiddles.OUTSIDE;
    static final int STATE = MouthRiddles.STATE, FULL = MouthRiddles.FULL;
    static final int MIN = Integer.MIN_VALUE, MAX = Integer.MAX_VALUE;
    static final int SAYING = 0, PLAIN = 1, BORROWED = 2, FIGHTING = 3, COUNTED = 4, KNOWN = 5;
    /** Stands for the document's chapter of terms where a promise's number is asked for. */
    static final int TERMS = 0;
    private static final int PROMISES = 34;
    private static final Path DOCUMENT = Path.of("../shared/DOC.md");

    private static final Map<Integer, List<String>> quoted = new TreeMap<>();
    private static String sentence = "";
    private static int wrong = 0;

    /** Begins the test of one sentence (or part of one) of a promise, told word by word. */
    static void says(int promise, String words) {
        quoted.computeIfAbsent(promise, key -> new ArrayList<>()).add(words);
        sentence = (promise == TERMS ? "Terms" : "promise " + promise) + ", '" + words + "'";
    }

    static void due(String call, long got, long want) {
        if (got != want) fail(call + " answered " + got + ", due is " + want);
    }

    private static void fail(String what) {
        wrong++;
        System.out.println(sentence + ": " + what);
    }

    /** The call is refused as is due, and leaves an object that in nothing differs from one that was spared it. */
    static void refused(Supplier<MouthRiddles> made, String call, ToIntFunction<MouthRiddles> calling, int want) {
        MouthRiddles x = made.get();
        due(call, calling.applyAsInt(x), want);
        sameAs(made, call, x);
    }

    /** A call that asks changes nothing either. */
    static void asked(Supplier<MouthRiddles> made, String call, ToIntFunction<MouthRiddles> calling, int want) {
        refused(made, call, calling, want);
    }

    private static void sameAs(Supplier<MouthRiddles> made, String call, MouthRiddles x) {
        List<Long> spared = Fires.allOf(made.get());
        List<Long> called = Fires.allOf(x);
        for (int i = 0; i < spared.size(); i++) {
            if (!spared.get(i).equals(called.get(i))) {
                fail(call + " changed what probe " + i + " tells from " + spared.get(i) + " to " + called.get(i));
                return;
            }
        }
    }

    /** The document's digest of these numbers, without any wrapping until the end. */
    static long hash(int... told) {
        BigInteger h = BigInteger.valueOf(349);
        for (int number : told) h = h.multiply(BigInteger.valueOf(31)).add(BigInteger.valueOf(number));
        return h.longValue();
    }

    /** Tells how many answers were not as due, and that each sentence has a test and each test a sentence. */
    static int close() throws IOException {
        String document = Files.readString(DOCUMENT);
        sentence = "the document";
        for (int promise = 1; promise <= PROMISES; promise++) coverage(promise, textOf(document, promise));
        coverage(TERMS, terms(document));
        return wrong;
    }

    private static void coverage(int promise, String text) {
        StringBuilder left = new StringBuilder(text);
        for (String words : quoted.getOrDefault(promise, List.of())) {
            int at = text.indexOf(words);
            if (at < 0) fail("chapter " + promise + " has no '" + words + "'");
            for (; at >= 0; at = text.indexOf(words, at + 1)) {
                for (int i = at; i < at + words.length(); i++) left.setCharAt(i, ' ');
            }
        }
        String rest = left.toString().replaceAll("[\\s.,:;]+", " ").trim();
        if (!rest.isEmpty()) fail("chapter " + promise + " says what no test is told for: " + rest);
    }

    private static String textOf(String document, int promise) {
        int from = document.indexOf("## Promise " + promise + ":");
        int signature = document.indexOf("`: ", from);
        int to = document.indexOf("\n## ", signature);
        return flat(document.substring(signature + 3, to));
    }

    private static String terms(String document) {
        int from = document.indexOf("## Terms") + "## Terms".length();
        String text = document.substring(from, document.indexOf("\n## ", from));
        return flat(text.replaceAll("```(text)?|======== \\d|Ahead of the calls[^\n]*", " "));
    }

    private static String flat(String text) {
        return text.replaceAll("\\s+", " ").trim();
    }
}
