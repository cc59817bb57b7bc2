import java.io.IOException;
import java.nio.file.Files;
import java.nio.file.Path;
import java.util.BitSet;
import java.util.LinkedHashMap;
import java.util.Map;
import java.util.regex.Matcher;
import java.util.regex.Pattern;

/**
 * What the tests by sentences share. Each test quotes the sentence that it tests; the quotes are
 * held against the document, so that no sentence of the terms and promises is left without a test.
 */
abstract class Reading {
    static final int BEYOND = -100001, MISSING = -100002, SIZE = -100003, KIND = -100004;
    static final int FULL = -100005, NONE = -100006, TAKEN = -100007, BARRED = -100008;
    static final int LOW = Integer.MIN_VALUE, HIGH = Integer.MAX_VALUE;

    private static final Path DOCUMENT = Path.of("../shared/DOC.md");
    private static final Due DUE = new Due("sentences");
    private static final Map<String, StringBuilder> QUOTES = new LinkedHashMap<>();

    private static String sentence;

    /** The object of the sentence that is tested. */
    static SmallRooms x;

    /** A sentence of a term (0: ahead of the numbered ones) is tested next, on a new object. */
    static void term(int number, String words) {
        quote("term " + number, words);
    }

    /** A sentence of a promise is tested next, on a new object. */
    static void promise(int number, String words) {
        quote("promise " + number, words);
    }

    private static void quote(String section, String words) {
        QUOTES.computeIfAbsent(section, none -> new StringBuilder()).append(words).append('\n');
        sentence = section + ": \"" + words + "\"";
        fresh();
    }

    static void fresh() {
        x = new SmallRooms();
    }

    static void due(int want, int got) {
        String where = want == got ? "" : sentence + " " + Thread.currentThread().getStackTrace()[2];
        DUE.is(where, want, got);
    }

    static void same(String what, String want, String got) {
        DUE.is(want.equals(got) ? "" : sentence + " " + what + ": is " + got + ", not " + want + ":", 1, want.equals(got) ? 1 : 0);
    }

    // ---- what many tests begin with

    static void rooms(int count, int places) {
        for (int i = 0; i < count; i++) {
            x.room(71, places);
        }
    }

    static void hands(int... kinds) {
        for (int kind : kinds) {
            x.hand(kind);
        }
    }

    /** Children of such ages in month 0, for all days and months. */
    static void children(int... ages) {
        for (int age : ages) {
            x.child(-age, -1, 31, 60);
        }
    }

    /** A room for all, and so many children of 10 months in it, whom person 0 fetches. */
    static void childrenIn(int count) {
        x.room(71, 20);
        for (int c = 0; c < count; c++) {
            x.child(-10, -1, 31, 60);
            x.fetches(c, 0, true);
            x.in(c, 0);
        }
    }

    static void write(int s, int bits, int... numbers) {
        x.sheet(s, bits, numbers.length);
        for (int i = 0; i < numbers.length; i++) {
            x.put(s, i, numbers[i]);
        }
    }

    static void ratio(int... signs) {
        write(3, 8, signs);
        due(signs.length, x.text(3));
    }

    static int[] row(int... numbers) {
        return numbers;
    }

    // ---- the document

    static void end() throws IOException {
        if (Files.isReadable(DOCUMENT)) {
            sections(Files.readString(DOCUMENT)).forEach(Reading::isRead);
        } else {
            System.out.println("sentences: no " + DOCUMENT + " to hold the quotes against");
        }
        DUE.end();
    }

    private static String plain(String text) {
        return text.replace("```text", " ").replace("```", " ").replaceAll("\\s+", " ").trim();
    }

    private static Map<String, String> sections(String document) {
        Map<String, String> sections = new LinkedHashMap<>();
        String terms = document.replaceAll("(?s).*\n## Terms\n|\nAhead of the calls .*", "");
        String[] parts = terms.split("(?m)^\\d\\. ");
        for (int i = 0; i < parts.length; i++) {
            sections.put("term " + i, plain(parts[i]));
        }
        Matcher promise = Pattern.compile("(?s)\n## Promise (\\d+): [^\n]*\n\\s*`[^`]*`: (.*?)(?=\n## )").matcher(document);
        while (promise.find()) {
            sections.put("promise " + promise.group(1), plain(promise.group(2)));
        }
        return sections;
    }

    /** Every letter and digit of a section stands in a quote, and every quote in the section. */
    private static void isRead(String section, String text) {
        BitSet read = new BitSet();
        StringBuilder quotes = QUOTES.getOrDefault(section, new StringBuilder());
        for (String words : quotes.toString().split("\n")) {
            int at = text.indexOf(words);
            DUE.is(section + " has the words \"" + words + "\"", 1, at >= 0 ? 1 : 0);
            read.set(Math.max(0, at), Math.max(0, at) + words.length());
        }
        StringBuilder left = new StringBuilder();
        for (int i = 0; i < text.length(); i++) {
            left.append(read.get(i) || !Character.isLetterOrDigit(text.charAt(i)) ? "" : text.charAt(i));
        }
        DUE.is(section + " has words without a test: " + left, 0, left.length());
    }
}
