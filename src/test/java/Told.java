import java.math.BigInteger;
import java.util.ArrayList;
import java.util.HashSet;
import java.util.List;
import java.util.NoSuchElementException;
import java.util.Set;
import java.util.TreeSet;
import java.util.function.IntUnaryOperator;

/**
 * The document once more, as plainly and as slowly as its words: every stand a text, values step by step,
 * turnings one by one. Random runs of calls are answered by this and by HoldTwo, and compared.
 */
final class Told {
    static final int NONE = -1;
    static final int HIDDEN = -1000000;

    private String tape = "";
    private final List<String> laws = new ArrayList<>();
    private int judging = NONE;
    private int forWays = NONE;
    private int places = 0;
    private String start = "";
    private final Set<String> links = new HashSet<>();
    private String goalsOfX = "";
    private String goalsOfO = "";
    private String rules = "";
    private List<String> line = null;
    private String board = "";
    private int turn = 0;
    private int winner = 0;
    private int made = 0;
    private Object[] image = null;
    private int[][] tables = new int[2][];
    private final List<String> rows = new ArrayList<>();

    /** A move: its code, and the stand behind it. */
    private static final class Move {
        final int code;
        final String board;
        final int turn;

        Move(int code, String board, int turn) {
            this.code = code;
            this.board = board;
            this.turn = turn;
        }
    }

    int feed(int a, int b, int c, int d, int e) {
        StringBuilder more = new StringBuilder(tape);
        for (int number : new int[] {a, b, c, d, e}) {
            for (int i = 3; i >= 0; i--) {
                char sign = (char) (number >> 8 * i & 255);
                if (sign != 0) {
                    more.append(sign);
                }
            }
        }
        if (more.length() > 160) {
            return NONE;
        }
        tape = more.toString();
        return tape.length();
    }

    boolean end(int n) {
        if (n < 0 || n > tape.length()) {
            return false;
        }
        tape = tape.substring(0, n);
        return true;
    }

    int fault(int sort) {
        switch (sort) {
            case 0:
                return Faults.ofGame(tape);
            case 1:
                return Faults.ofLaw(tape);
            case 2:
                return Faults.ofLine(tape);
            default:
                return -2;
        }
    }

    int text(int sort) {
        if (sort < 0 || sort > 2 || fault(sort) != NONE) {
            return NONE;
        }
        String text = tape.replace(" ", "");
        if (sort == 0) {
            tape = "";
            begin(text);
            return places;
        }
        if (sort == 1) {
            if (laws.size() == 4) {
                return NONE;
            }
            tape = "";
            laws.add(text);
            return laws.size() - 1;
        }
        if (places == 0) {
            return NONE;
        }
        tape = "";
        line = List.of(text.split(";"));
        return line.size();
    }

    private void begin(String text) {
        String[] parts = text.split(";", -1);
        start = parts[0];
        places = start.length();
        links.clear();
        for (String pair : parts[1].split(",")) {
            links.add(pair);
            links.add(pair.charAt(1) + "" + pair.charAt(0));
        }
        String goals = parts.length > 2 ? parts[2] : "/";
        goalsOfX = goals.substring(0, goals.indexOf('/'));
        goalsOfO = goals.substring(goals.indexOf('/') + 1);
        rules = parts.length > 3 ? parts[3] : "";
        board = start;
        turn = 0;
        winner = 0;
        made = 0;
        line = null;
        image = null;
        tables = new int[2][];
        rows.clear();
    }

    boolean law(int what, int law) {
        if (what < 0 || what > 1 || law < NONE || law >= laws.size()) {
            return false;
        }
        if (what == 0) {
            judging = law;
            tables = new int[2][];
        } else {
            forWays = law;
        }
        return true;
    }

    int at(int place) {
        if (place < 0 || place >= places) {
            throw new NoSuchElementException();
        }
        return ".XO".indexOf(board.charAt(place));
    }

    private int size() {
        int size = 2;
        for (int i = 0; i < places; i++) {
            size *= 3;
        }
        return places == 0 ? 0 : size;
    }

    private static int numberOf(String board, int turn) {
        int number = 0;
        int power = 1;
        for (int i = 0; i < board.length(); i++) {
            number += ".XO".indexOf(board.charAt(i)) * power;
            power *= 3;
        }
        return 2 * number + turn;
    }

    private String boardOf(int number) {
        StringBuilder text = new StringBuilder();
        int rest = number / 2;
        for (int i = 0; i < places; i++) {
            text.append(".XO".charAt(rest % 3));
            rest /= 3;
        }
        return text.toString();
    }

    boolean set(int number) {
        if (number < 0 || number >= size()) {
            return false;
        }
        board = boardOf(number);
        turn = number % 2;
        winner = 0;
        made = 0;
        return true;
    }

    int stand() {
        return places == 0 ? NONE : numberOf(board, turn);
    }

    private List<Move> movesOf(String from, int whose) {
        List<Move> list = new ArrayList<>();
        char own = "XO".charAt(whose);
        for (int i = 0; i < places; i++) {
            for (int j = 0; j < places; j++) {
                boolean linked = links.contains((char) ('a' + i) + "" + (char) ('a' + j));
                boolean open = from.charAt(j) == '.' || rules.contains("t") && from.charAt(j) != own;
                if (from.charAt(i) == own && linked && open) {
                    char[] behind = from.toCharArray();
                    behind[i] = '.';
                    behind[j] = own;
                    list.add(new Move(10 * i + j, new String(behind), 1 - whose));
                }
            }
        }
        if (rules.contains("p")) {
            list.add(new Move(99, from, 1 - whose));
        }
        return list;
    }

    /** For the one who made the move to it. */
    private int worth(int law, String behind, int next) {
        if (law == NONE) {
            return 0;
        }
        char own = next == 0 ? 'O' : 'X';
        char others = next == 0 ? 'X' : 'O';
        String ownGoals = next == 0 ? goalsOfO : goalsOfX;
        String othersGoals = next == 0 ? goalsOfX : goalsOfO;
        int[] letters = new int[128];
        for (int i = 0; i < places; i++) {
            char man = behind.charAt(i);
            String letter = (char) ('a' + i) + "";
            letters['a'] += man == own ? 1 : 0;
            letters['b'] += man == others ? 1 : 0;
            letters['g'] += man == own && ownGoals.contains(letter) ? 1 : 0;
            letters['h'] += man == others && othersGoals.contains(letter) ? 1 : 0;
            letters['e'] += man == '.' ? 1 : 0;
        }
        letters['m'] = movesOf(behind, next).size();
        return Worth.of(laws.get(law), letter -> letters[letter]);
    }

    private int outcome(Move move) {
        return Integer.signum(worth(judging, move.board, move.turn));
    }

    int moves(int i) {
        if (places == 0) {
            return NONE;
        }
        List<Move> list = movesOf(board, turn);
        return i == NONE ? list.size() : i >= 0 && i < list.size() ? list.get(i).code : NONE;
    }

    private static Move find(List<Move> list, int code) {
        for (Move move : list) {
            if (move.code == code) {
                return move;
            }
        }
        return null;
    }

    private int overOf(String at, int whose, int won) {
        if (won != 0) {
            return won;
        }
        if (!movesOf(at, whose).isEmpty()) {
            return 0;
        }
        return rules.contains("n") ? 3 : 2 - whose;
    }

    private int winnerBy(Move move) {
        int outcome = outcome(move);
        int mover = 1 - move.turn;
        return outcome == 0 ? 0 : outcome > 0 ? mover + 1 : 2 - mover;
    }

    int hold(int one, int other, int pick) {
        if (places == 0 || over() != 0 || pick < 0 || pick > 1) {
            return NONE;
        }
        List<Move> list = movesOf(board, turn);
        Move first = find(list, one);
        Move second = find(list, other);
        if (list.size() == 1 ? first == null || other != NONE || pick == 1
                : first == null || second == null || one == other) {
            return NONE;
        }
        Move picked = pick == 0 ? first : second;
        winner = winnerBy(picked);
        board = picked.board;
        turn = picked.turn;
        made++;
        return made;
    }

    int over() {
        return places == 0 ? NONE : overOf(board, turn, winner);
    }

    private static int codeOf(String move) {
        return move.equals("-") ? 99 : 10 * (move.charAt(0) - 'a') + move.charAt(1) - 'a';
    }

    int judge(int what) {
        if (line == null || what < 0 || what > 2) {
            return HIDDEN;
        }
        String at = start;
        int whose = 0;
        int won = 0;
        for (int i = 0; i < line.size(); i++) {
            String text = line.get(i);
            boolean two = text.contains(",");
            List<Move> list = movesOf(at, whose);
            Move first = find(list, codeOf(two ? text.substring(0, text.indexOf(',')) : text));
            Move second = two ? find(list, codeOf(text.substring(text.indexOf(',') + 1, text.length() - 1))) : first;
            int why = 0;
            if (overOf(at, whose, won) != 0) {
                why = 1;
            } else if (first == null || second == null) {
                why = 2;
            } else if (two && first == second) {
                why = 3;
            } else if (!two && list.size() > 1) {
                why = 4;
            }
            if (why != 0) {
                return what == 0 ? i : what == 1 ? why : numberOf(at, whose);
            }
            Move picked = two && text.endsWith("2") ? second : first;
            won = winnerBy(picked);
            at = picked.board;
            whose = picked.turn;
        }
        return what == 0 ? NONE : what == 1 ? 0 : numberOf(at, whose);
    }

    private int[] table(int what) {
        if (tables[what] == null) {
            tables[what] = stepByStep(what == 0);
        }
        return tables[what];
    }

    private int[] stepByStep(boolean held) {
        int size = size();
        int[] table = new int[size];
        List<int[]> fixed = new ArrayList<>();
        List<int[]> behind = new ArrayList<>();
        for (int number = 0; number < size; number++) {
            List<Move> list = movesOf(boardOf(number), number % 2);
            int[] outcomes = new int[list.size()];
            int[] nexts = new int[list.size()];
            for (int i = 0; i < nexts.length; i++) {
                outcomes[i] = outcome(list.get(i));
                nexts[i] = numberOf(list.get(i).board, list.get(i).turn);
            }
            fixed.add(outcomes);
            behind.add(nexts);
            table[number] = nexts.length == 0 && !rules.contains("n") ? -100000 : 0;
        }
        boolean changed = true;
        while (changed) {
            changed = false;
            int[] ahead = table.clone();
            for (int number = 0; number < size; number++) {
                int count = behind.get(number).length;
                if (ahead[number] == 0 && count > 0) {
                    int[] values = new int[count];
                    for (int i = 0; i < count; i++) {
                        values[i] = ofMove(fixed.get(number)[i], ahead[behind.get(number)[i]]);
                    }
                    table[number] = held ? byPairs(values) : greatest(values);
                    changed |= table[number] != 0;
                }
            }
        }
        return table;
    }

    private static int ofMove(int outcome, int value) {
        if (outcome != 0) {
            return outcome > 0 ? 99999 : -99999;
        }
        return value == 0 ? 0 : value > 0 ? 1 - value : -1 - value;
    }

    private static int greatest(int[] values) {
        int best = values[0];
        for (int value : values) {
            best = Math.max(best, value);
        }
        return best;
    }

    private static int byPairs(int[] values) {
        if (values.length == 1) {
            return values[0];
        }
        int best = Integer.MIN_VALUE;
        for (int i = 0; i < values.length; i++) {
            for (int j = 0; j < i; j++) {
                best = Math.max(best, Math.min(values[i], values[j]));
            }
        }
        return best;
    }

    private int heldOf(Move move) {
        return ofMove(outcome(move), table(0)[numberOf(move.board, move.turn)]);
    }

    int value(int number, int what) {
        int asked = number == NONE ? stand() : number;
        if (places == 0 || what < 0 || what > 1 || asked < 0 || asked >= size()) {
            return HIDDEN;
        }
        return table(what)[asked];
    }

    int proof(int i) {
        if (places == 0 || i < 0 || i >= movesOf(board, turn).size()) {
            return HIDDEN;
        }
        return heldOf(movesOf(board, turn).get(i));
    }

    /** The best pair (one alone: one), and behind it all that are as good. */
    private List<List<Move>> pairsOf(String at, int whose) {
        List<Move> list = movesOf(at, whose);
        List<List<Move>> best = new ArrayList<>();
        if (list.size() == 1) {
            best.add(list);
        }
        int most = Integer.MIN_VALUE;
        for (int i = 0; i < list.size(); i++) {
            for (int j = i + 1; j < list.size(); j++) {
                int lesser = Math.min(heldOf(list.get(i)), heldOf(list.get(j)));
                if (lesser > most) {
                    most = lesser;
                    best.clear();
                }
                if (lesser == most) {
                    best.add(List.of(list.get(i), list.get(j)));
                }
            }
        }
        return best;
    }

    int pair(int what) {
        if (places == 0 || what < 0 || what > 2) {
            return NONE;
        }
        List<List<Move>> pairs = pairsOf(board, turn);
        if (pairs.isEmpty()) {
            return NONE;
        }
        if (what == 2) {
            return pairs.size();
        }
        return what < pairs.get(0).size() ? pairs.get(0).get(what).code : NONE;
    }

    /** The stands with these men; null: there can be none. */
    private List<Integer> standsOf(int xs, int os, int whose) {
        if (places == 0 || xs < 0 || os < 0 || (long) xs + os > places || whose < 0 || whose > 1) {
            return null;
        }
        List<Integer> list = new ArrayList<>();
        for (int number = whose; number < size(); number += 2) {
            String text = boardOf(number);
            if (text.chars().filter(c -> c == 'X').count() == xs && text.chars().filter(c -> c == 'O').count() == os) {
                list.add(number);
            }
        }
        return list;
    }

    int hurts(int xs, int os, int whose, boolean help, int i) {
        List<Integer> all = standsOf(xs, os, whose);
        if (all == null) {
            return NONE;
        }
        List<Integer> some = new ArrayList<>();
        for (int number : all) {
            int held = table(0)[number];
            int plain = table(1)[number];
            if (help ? held > plain : held < plain) {
                some.add(number);
            }
        }
        return i == NONE ? some.size() : i >= 0 && i < some.size() ? some.get(i) : NONE;
    }

    private int longest(List<Integer> won, int what) {
        int best = NONE;
        int rounds = NONE;
        for (int number : won) {
            if (100000 - table(0)[number] > rounds) {
                rounds = 100000 - table(0)[number];
                best = number;
            }
        }
        return what == 0 ? best : rounds;
    }

    int ending(int xs, int os, int whose, int what) {
        List<Integer> all = standsOf(xs, os, whose);
        if (all == null || what < 0 || what > 1) {
            return NONE;
        }
        all.removeIf(number -> table(0)[number] <= 0);
        return longest(all, what);
    }

    int puzzles(int xs, int os, int whose, int what) {
        List<Integer> all = standsOf(xs, os, whose);
        if (all == null || what < 0 || what > 2) {
            return NONE;
        }
        all.removeIf(number -> movesOf(boardOf(number), number % 2).stream().filter(m -> heldOf(m) > 0).count() != 2);
        return what == 0 ? all.size() : longest(all, what - 1);
    }

    int round(int what) {
        if (places == 0 || what < 0 || what > 1 || table(0)[stand()] != 0) {
            return NONE;
        }
        List<Integer> been = new ArrayList<>();
        int number = stand();
        while (!been.contains(number)) {
            been.add(number);
            List<List<Move>> pairs = pairsOf(boardOf(number), number % 2);
            if (pairs.isEmpty()) {
                return NONE;
            }
            Move picked = lesser(pairs.get(0), 2);
            if (outcome(picked) != 0) {
                return NONE;
            }
            number = numberOf(picked.board, picked.turn);
        }
        return what == 0 ? been.size() : been.size() - been.indexOf(number);
    }

    private int mark(Move move, int way) {
        return way == 1 ? worth(forWays, move.board, move.turn) : heldOf(move);
    }

    private Move lesser(List<Move> held, int way) {
        Move one = held.get(0);
        return held.size() == 1 || mark(one, way) <= mark(held.get(1), way) ? one : held.get(1);
    }

    private int threatsOf(String at, int whose) {
        return (int) movesOf(at, whose).stream().filter(m -> outcome(m) > 0).count();
    }

    int threats(int what) {
        if (places == 0 || what < 0 || what > 1) {
            return NONE;
        }
        if (what == 0) {
            return threatsOf(board, turn);
        }
        List<Move> list = movesOf(board, turn);
        int bites = 0;
        for (int i = 0; i < list.size(); i++) {
            for (int j = i + 1; j < list.size(); j++) {
                bites += bites(list.get(i)) && bites(list.get(j)) ? 1 : 0;
            }
        }
        return bites;
    }

    private boolean bites(Move move) {
        return outcome(move) == 0 && threatsOf(move.board, turn) >= 2;
    }

    int turnings(int number) {
        if (places == 0 || number < NONE || number >= size()) {
            return NONE;
        }
        if (rows.isEmpty()) {
            addRows("");
        }
        if (number == NONE) {
            return rows.size();
        }
        TreeSet<Integer> made = new TreeSet<>();
        String from = boardOf(number);
        for (String row : rows) {
            char[] turned = new char[places];
            for (int i = 0; i < places; i++) {
                turned[row.charAt(i) - 'a'] = from.charAt(i);
            }
            made.add(numberOf(new String(turned), number % 2));
        }
        return made.first();
    }

    private void addRows(String row) {
        if (row.length() == places) {
            if (isTurning(row)) {
                rows.add(row);
            }
            return;
        }
        for (int i = 0; i < places; i++) {
            char letter = (char) ('a' + i);
            if (row.indexOf(letter) < 0) {
                addRows(row + letter);
            }
        }
    }

    private boolean isTurning(String row) {
        Set<String> turned = new HashSet<>();
        for (String link : links) {
            turned.add(turned(link, row));
        }
        return turned.equals(links) && sorted(turned(goalsOfX, row)).equals(sorted(goalsOfX))
            && sorted(turned(goalsOfO, row)).equals(sorted(goalsOfO));
    }

    private static String turned(String letters, String row) {
        StringBuilder text = new StringBuilder();
        for (char letter : letters.toCharArray()) {
            text.append(row.charAt(letter - 'a'));
        }
        return text.toString();
    }

    private static String sorted(String letters) {
        char[] row = letters.toCharArray();
        java.util.Arrays.sort(row);
        return new String(row);
    }

    /** x as 64 bits without sign. */
    private BigInteger drawn;

    private int draw(int n) {
        BigInteger round = BigInteger.ONE.shiftLeft(64);
        drawn = drawn.multiply(new BigInteger("6364136223846793005")).add(new BigInteger("1442695040888963407")).mod(round);
        return drawn.shiftRight(33).mod(BigInteger.valueOf(n)).intValue();
    }

    int match(int x, int o, long seed, int most) {
        if (places == 0 || x < 0 || x > 3 || o < 0 || o > 3 || most < 1 || most > 200) {
            return NONE;
        }
        drawn = BigInteger.valueOf(seed).mod(BigInteger.ONE.shiftLeft(64));
        String at = board;
        int whose = turn;
        int won = winner;
        int done = 0;
        while (overOf(at, whose, won) == 0 && done < most) {
            List<Move> held = heldOutBy(whose == 0 ? x : o, at, whose);
            Move picked = pickedBy(whose == 0 ? o : x, held);
            won = winnerBy(picked);
            at = picked.board;
            whose = picked.turn;
            done++;
        }
        return overOf(at, whose, won) % 3;
    }

    private List<Move> heldOutBy(int way, String at, int whose) {
        List<Move> list = movesOf(at, whose);
        if (list.size() == 1 || way == 0) {
            return list.subList(0, Math.min(2, list.size()));
        }
        if (way == 2) {
            return pairsOf(at, whose).get(0);
        }
        List<Move> left = new ArrayList<>(list);
        List<Move> taken = new ArrayList<>();
        for (int i = 0; i < 2; i++) {
            Move next = left.get(0);
            if (way == 3) {
                next = left.get(draw(left.size()));
            } else {
                for (Move move : left) {
                    next = mark(move, 1) > mark(next, 1) ? move : next;
                }
            }
            taken.add(next);
            left.remove(next);
        }
        list.retainAll(taken);
        return list;
    }

    private Move pickedBy(int way, List<Move> held) {
        if (held.size() == 1 || way == 0) {
            return held.get(0);
        }
        return way == 3 ? held.get(draw(2)) : lesser(held, way);
    }

    int series(int x, int o, int n, int most, int what) {
        if (n < 1 || n > 20 || what < 0 || what > 1 || match(x, o, 0, most) == NONE) {
            return NONE;
        }
        int won = 0;
        for (int seed = 0; seed < n; seed++) {
            won += match(x, o, seed, most) == what + 1 ? 1 : 0;
        }
        return won;
    }

    int all(int what) {
        if (places == 0 || what < 0 || what > 7) {
            return NONE;
        }
        int[] table = table(what < 3 || what == 6 ? 0 : 1);
        int sum = 0;
        int most = 0;
        for (int value : table) {
            int sort = value > 0 ? 0 : value < 0 ? 1 : 2;
            sum += sort == what % 3 ? 1 : 0;
            most = sort == 0 ? Math.max(most, 100000 - value) : most;
        }
        return what > 5 ? most : sum;
    }

    int image() {
        if (places == 0) {
            return NONE;
        }
        image = new Object[] {board, turn, winner, made};
        return made;
    }

    int back() {
        if (image == null) {
            return NONE;
        }
        board = (String) image[0];
        turn = (Integer) image[1];
        winner = (Integer) image[2];
        made = (Integer) image[3];
        return made;
    }

    int count(int what) {
        int[] counts = {places, laws.size(), tape.length(), made, line == null ? NONE : line.size(), judging, forWays};
        return what >= 0 && what < counts.length ? counts[what] : HIDDEN;
    }

    /** Laws by cutting their text at the sign that binds least. */
    static final class Worth {
        private Worth() {
        }

        static int of(String law, IntUnaryOperator letters) {
            for (String clause : law.split(";")) {
                int mark = clause.indexOf('?');
                if (mark < 0) {
                    return sum(clause.substring(2), letters);
                }
                if (holds(clause.substring(2, mark), letters)) {
                    return sum(clause.substring(mark + 1), letters);
                }
            }
            return 0;
        }

        /** Where the last of these signs stands outside of all brackets; NONE: nowhere. */
        private static int lastOf(String signs, String text) {
            int depth = 0;
            for (int i = text.length() - 1; i >= 0; i--) {
                char sign = text.charAt(i);
                depth += sign == ')' || sign == ']' ? 1 : sign == '(' || sign == '[' ? -1 : 0;
                if (depth == 0 && signs.indexOf(sign) >= 0) {
                    return i;
                }
            }
            return NONE;
        }

        private static boolean holds(String text, IntUnaryOperator letters) {
            int cut = lastOf("|", text);
            if (cut >= 0) {
                return holds(text.substring(0, cut), letters) | holds(text.substring(cut + 1), letters);
            }
            cut = lastOf("&", text);
            if (cut >= 0) {
                return holds(text.substring(0, cut), letters) & holds(text.substring(cut + 1), letters);
            }
            if (text.startsWith("!")) {
                return !holds(text.substring(1), letters);
            }
            if (text.startsWith("(")) {
                return holds(text.substring(1, text.length() - 1), letters);
            }
            cut = lastOf("=<>", text);
            int one = sum(text.substring(0, cut), letters);
            int other = sum(text.substring(cut + 1), letters);
            return text.charAt(cut) == '=' ? one == other : text.charAt(cut) == '<' ? one < other : one > other;
        }

        private static int sum(String text, IntUnaryOperator letters) {
            int cut = lastOf("+-", text);
            if (cut < 0) {
                cut = lastOf("*/", text);
            }
            if (cut >= 0) {
                BigInteger one = BigInteger.valueOf(sum(text.substring(0, cut), letters));
                BigInteger other = BigInteger.valueOf(sum(text.substring(cut + 1), letters));
                return joined(text.charAt(cut), one, other);
            }
            if (text.startsWith("[")) {
                return sum(text.substring(1, text.length() - 1), letters);
            }
            return Character.isDigit(text.charAt(0)) ? Integer.parseInt(text) : letters.applyAsInt(text.charAt(0));
        }

        private static int joined(char sign, BigInteger one, BigInteger other) {
            BigInteger most = BigInteger.valueOf(1000000);
            BigInteger result;
            if (sign == '+') {
                result = one.add(other);
            } else if (sign == '-') {
                result = one.subtract(other);
            } else if (sign == '*') {
                result = one.multiply(other);
            } else {
                result = other.signum() == 0 ? BigInteger.ZERO : one.divide(other);
            }
            return result.min(most).max(most.negate()).intValue();
        }
    }
}
