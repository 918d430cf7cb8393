import java.io.IOException;
import java.nio.charset.StandardCharsets;
import java.nio.file.Files;
import java.nio.file.Path;
import java.util.BitSet;
import java.util.LinkedHashMap;
import java.util.Map;
import java.util.regex.Matcher;
import java.util.regex.Pattern;

/**
 * The words of the document, each with the answers that show whether they hold: a test first says which words
 * it is about, then asks. In the end no word of the document may be left that no test was about.
 */
final class Said {
    static final int NONE = -1;
    static final int HIDDEN = -1000000;
    static final int HIGH = Integer.MAX_VALUE;
    static final int LOW = Integer.MIN_VALUE;
    private static final Path DOCUMENT = Path.of("../shared/DOC.md");

    private final Check check = new Check();
    private final Map<String, String> sections = new LinkedHashMap<>();
    private final Map<String, BitSet> quoted = new LinkedHashMap<>();
    private String section = "";
    private String words = "";
    private int answers = 1;

    Said() {
        if (!Files.exists(DOCUMENT)) {
            System.out.println("without " + DOCUMENT + " nobody knows whether all words are asked for");
            return;
        }
        Matcher parts = Pattern.compile("(?s)(?:^|\\n)##? ([^:\\n]+)[^\\n]*\\n(.*?)(?=\\n## |$)").matcher(read());
        while (parts.find()) {
            String text = parts.group(2).replaceAll("```(text|java)?", " ").replaceAll("==== \\d\\.", " ");
            sections.put(parts.group(1), plain(text));
            quoted.put(parts.group(1), new BitSet());
        }
        check.due("sections of the document", sections.size(), 33);
    }

    private static String read() {
        try {
            return Files.readString(DOCUMENT, StandardCharsets.UTF_8);
        } catch (IOException e) {
            throw new IllegalStateException(e);
        }
    }

    private static String plain(String text) {
        return text.replaceAll("\\s+", " ").trim();
    }

    /** Which part of the document the next words stand in. */
    void in(String name) {
        section = name;
    }

    void that(String said) {
        check.that(words, answers > 0, "nothing was asked about these words");
        words = said;
        answers = 0;
        String text = sections.get(section);
        if (text == null) {
            return;
        }
        int from = text.indexOf(plain(said));
        check.that(said, from >= 0, "is not said in " + section);
        if (from >= 0) {
            quoted.get(section).set(from, from + plain(said).length());
        }
    }

    void due(String call, long got, long want) {
        answers++;
        check.due(shown(call), got, want);
    }

    void due(String call, boolean got, boolean want) {
        answers++;
        check.due(shown(call), got, want);
    }

    void noPlace(HoldTwo game, int place) {
        answers++;
        check.noPlace(game, place);
    }

    private String shown(String call) {
        return section + ", '" + words + "', " + call;
    }

    void fault(int sort, String text, int want) {
        due("fault(" + sort + ") of '" + text + "'", Check.fault(new HoldTwo(), sort, text), want);
    }

    void good(int sort, String... texts) {
        for (String text : texts) {
            fault(sort, text, NONE);
        }
    }

    /** A new object with a game; the first law judges, the second one is for ways. */
    HoldTwo game(String text, String... laws) {
        HoldTwo game = new HoldTwo();
        due("text(0) of " + text, Check.text(game, 0, text) > 0, true);
        for (int i = 0; i < laws.length; i++) {
            due("text(1) of " + laws[i], Check.text(game, 1, laws[i]), i);
            due("law(" + i + "," + i + ")", game.law(i, i), true);
        }
        return game;
    }

    void finish() {
        that("");
        for (String name : sections.keySet()) {
            StringBuilder rest = new StringBuilder(sections.get(name));
            quoted.get(name).stream().forEach(i -> rest.setCharAt(i, ' '));
            check.that(name, !Pattern.compile("\\w").matcher(rest).find(), "nobody asked about '" + plain(rest.toString()) + "'");
        }
        check.finish();
    }
}
