import java.util.ArrayList;
import java.util.HashMap;
import java.util.LinkedHashSet;
import java.util.List;
import java.util.Map;
import java.util.Set;
import java.util.regex.Matcher;
import java.util.regex.Pattern;

/**
 * Faults in another way than by reading: games and lines by patterns, and laws by Earley's sets, which are
 * empty behind the very first sign with which no law can begin.
 */
final class Faults {
    private static final int NONE = -1;
    private static final String MOVE = "(?:[a-i][a-i]|-)";
    private static final String TURN = MOVE + "(?:," + MOVE + "[12])?";
    private static final Pattern LINE = Pattern.compile(TURN + "(?:;" + TURN + "){0,29}");
    private static final Map<String, List<String[]>> LAWS = laws();

    private Faults() {
    }

    /** The fault of a text with blanks, by that of the text without. */
    private static int spread(String text, int fault) {
        if (fault == NONE) {
            return NONE;
        }
        int seen = 0;
        for (int i = 0; i < text.length(); i++) {
            if (text.charAt(i) != ' ') {
                if (seen == fault) {
                    return i;
                }
                seen++;
            }
        }
        return text.length();
    }

    private static int byPattern(Pattern pattern, String text) {
        for (int i = 1; i <= text.length(); i++) {
            Matcher matcher = pattern.matcher(text.substring(0, i));
            if (!matcher.matches() && !matcher.hitEnd()) {
                return i - 1;
            }
        }
        return pattern.matcher(text).matches() ? NONE : text.length();
    }

    static int ofLine(String tape) {
        return spread(tape, byPattern(LINE, tape.replace(" ", "")));
    }

    static int ofGame(String tape) {
        String text = tape.replace(" ", "");
        int places = 0;
        while (places < text.length() && places < 9 && "XO.".indexOf(text.charAt(places)) >= 0) {
            places++;
        }
        String place = "[a-" + (char) ('a' + Math.max(places, 1) - 1) + "]";
        String pair = place + place;
        String pattern = "[XO.]{2,9};" + pair + "(?:," + pair + ")*(?:;" + place + "*/" + place + "*(?:;[tpn]*)?)?";
        int form = byPattern(Pattern.compile(pattern), text);
        int twice = twice(form == NONE ? text : text.substring(0, form));
        return spread(tape, twice == NONE ? form : twice);
    }

    /** The first sign of a text of good form that is there a second time, or alike the one ahead. */
    private static int twice(String text) {
        int from = 0;
        String[] parts = text.split(";", -1);
        for (int part = 0; part < parts.length; part++) {
            int found = part == 1 ? pairTwice(parts[1]) : part > 1 ? signTwice(parts[part]) : NONE;
            if (found != NONE) {
                return from + found;
            }
            from += parts[part].length() + 1;
        }
        return NONE;
    }

    private static int pairTwice(String pairs) {
        for (int i = 0; i + 1 < pairs.length(); i += 3) {
            String there = pairs.substring(0, i);
            char one = pairs.charAt(i);
            char other = pairs.charAt(i + 1);
            if (one == other || there.contains("" + one + other) || there.contains("" + other + one)) {
                return i + 1;
            }
        }
        return NONE;
    }

    private static int signTwice(String signs) {
        int from = 0;
        for (int i = 0; i < signs.length(); i++) {
            if (signs.charAt(i) == '/') {
                from = i + 1;
            } else if (signs.substring(from, i).indexOf(signs.charAt(i)) >= 0) {
                return i;
            }
        }
        return NONE;
    }

    private static void rule(Map<String, List<String[]>> rules, String name, String... parts) {
        rules.computeIfAbsent(name, key -> new ArrayList<>()).add(parts);
    }

    /** Names of more than one sign are kinds of parts; their digit tells how many of ( [ ! stand round them. */
    private static Map<String, List<String[]>> laws() {
        Map<String, List<String[]>> rules = new HashMap<>();
        rule(rules, "LAW", "CLAUSE");
        rule(rules, "LAW", "LAW", ";", "CLAUSE");
        rule(rules, "CLAUSE", "y", ":", "SUM0");
        rule(rules, "CLAUSE", "y", ":", "CONDITION0", "?", "SUM0");
        for (int d = 0; d <= 6; d++) {
            String at = "" + d;
            String within = "" + (d + 1);
            rule(rules, "CONDITION" + at, "TRUTH" + at);
            rule(rules, "CONDITION" + at, "CONDITION" + at, "|", "TRUTH" + at);
            rule(rules, "TRUTH" + at, "UNIT" + at);
            rule(rules, "TRUTH" + at, "TRUTH" + at, "&", "UNIT" + at);
            for (String comparison : new String[] {"=", "<", ">"}) {
                rule(rules, "UNIT" + at, "SUM" + at, comparison, "SUM" + at);
            }
            rule(rules, "SUM" + at, "TERM" + at);
            rule(rules, "SUM" + at, "SUM" + at, "+", "TERM" + at);
            rule(rules, "SUM" + at, "SUM" + at, "-", "TERM" + at);
            rule(rules, "TERM" + at, "ATOM" + at);
            rule(rules, "TERM" + at, "TERM" + at, "*", "ATOM" + at);
            rule(rules, "TERM" + at, "TERM" + at, "/", "ATOM" + at);
            for (String letter : "a b g h m e".split(" ")) {
                rule(rules, "ATOM" + at, letter);
            }
            rule(rules, "ATOM" + at, "DIGIT");
            rule(rules, "ATOM" + at, "DIGIT", "DIGIT");
            rule(rules, "ATOM" + at, "DIGIT", "DIGIT", "DIGIT");
            rule(rules, "ATOM" + at, "DIGIT", "DIGIT", "DIGIT", "DIGIT");
            if (d < 6) {
                rule(rules, "UNIT" + at, "!", "UNIT" + within);
                rule(rules, "UNIT" + at, "(", "CONDITION" + within, ")");
                rule(rules, "ATOM" + at, "[", "SUM" + within, "]");
            }
        }
        for (char digit = '0'; digit <= '9'; digit++) {
            rule(rules, "DIGIT", "" + digit);
        }
        return rules;
    }

    /** A rule of which some parts are there, begun at a sign. */
    private record Item(String name, int rule, int dot, int from) {
        String next() {
            String[] parts = LAWS.get(name).get(rule);
            return dot < parts.length ? parts[dot] : null;
        }

        Item on() {
            return new Item(name, rule, dot + 1, from);
        }
    }

    static int ofLaw(String tape) {
        String text = tape.replace(" ", "");
        List<Set<Item>> sets = new ArrayList<>();
        Set<Item> first = new LinkedHashSet<>();
        predict("LAW", 0, first);
        complete(first, sets);
        sets.add(first);
        for (int i = 0; i < text.length(); i++) {
            Set<Item> next = new LinkedHashSet<>();
            for (Item item : sets.get(i)) {
                if (("" + text.charAt(i)).equals(item.next())) {
                    next.add(item.on());
                }
            }
            if (next.isEmpty()) {
                return spread(tape, i);
            }
            complete(next, sets);
            sets.add(next);
        }
        for (Item item : sets.get(text.length())) {
            if (item.name().equals("LAW") && item.from() == 0 && item.next() == null) {
                return NONE;
            }
        }
        return tape.length();
    }

    private static void predict(String name, int from, Set<Item> set) {
        for (int i = 0; i < LAWS.get(name).size(); i++) {
            set.add(new Item(name, i, 0, from));
        }
    }

    private static void complete(Set<Item> set, List<Set<Item>> sets) {
        int here = sets.size();
        int size = -1;
        while (size != set.size()) {
            size = set.size();
            for (Item item : new ArrayList<>(set)) {
                String next = item.next();
                if (next != null && next.length() > 1) {
                    predict(next, here, set);
                } else if (next == null) {
                    for (Item waiting : new ArrayList<>(item.from() == here ? set : sets.get(item.from()))) {
                        if (item.name().equals(waiting.next())) {
                            set.add(waiting.on());
                        }
                    }
                }
            }
        }
    }
}
