import java.util.Arrays;
import java.util.NoSuchElementException;

/**
 * Hold out two: a game on a net of places, in which whoever is to move holds out two moves and the
 * other one picks which of them is made. The document DOC.md tells what each call answers.
 */
public final class HoldTwo {
    /** None; refused. */
    public static final int NONE = -1;
    /** Not told. */
    public static final int HIDDEN = -1000000;

    private static final int X = 0;
    private static final int O = 1;
    private static final int X_WON = 1;
    private static final int O_WON = 2;
    private static final int DRAWN = 3;
    private static final int PASS = 99;
    private static final int SURE = 100000;
    private static final int LEAST_PLACES = 2;
    private static final int MOST_PLACES = 9;
    private static final int MOST_SIGNS = 160;
    private static final int MOST_LAWS = 4;
    private static final int MOST_TURNS = 30;
    /** k men of one colour have 9 - k places to go to at most, and there may be a pass. */
    private static final int MOST_MOVES = 21;
    private static final int MOST_MADE = 200;
    private static final int MOST_SEEDS = 20;
    private static final int[] POWERS = {1, 3, 9, 27, 81, 243, 729, 2187, 6561, 19683};

    private final Tape tape;
    private final Referee referee;
    private final Moves moves;
    private final Moves answers;
    private final Values values;
    private final Turner turner;
    private final Player player;
    private final Spot now;
    private final Spot kept;
    private final Spot trial;
    private Game spareGame;
    private Law spareLaw;
    private Line line;
    private Line spareLine;
    private boolean hasLine;
    private boolean hasImage;

    public HoldTwo() {
        tape = new Tape();
        referee = new Referee();
        moves = new Moves();
        answers = new Moves();
        values = new Values(referee);
        turner = new Turner();
        player = new Player(referee, values);
        now = new Spot();
        kept = new Spot();
        trial = new Spot();
        spareGame = new Game();
        spareLaw = new Law();
        line = new Line();
        spareLine = new Line();
        hasLine = false;
        hasImage = false;
    }

    // ---- texts ----

    public int feed(int a, int b, int c, int d, int e) {
        int more = Tape.signsIn(a) + Tape.signsIn(b) + Tape.signsIn(c) + Tape.signsIn(d) + Tape.signsIn(e);
        if (tape.length + more > MOST_SIGNS) {
            return NONE;
        }
        tape.add(a);
        tape.add(b);
        tape.add(c);
        tape.add(d);
        tape.add(e);
        return tape.length;
    }

    public boolean end(int n) {
        if (n < 0 || n > tape.length) {
            return false;
        }
        tape.length = n;
        return true;
    }

    public int fault(int sort) {
        if (sort < 0 || sort > 2) {
            return -2;
        }
        readTape(sort);
        return tape.wrong;
    }

    public int text(int sort) {
        if (sort < 0 || sort > 2 || !readTape(sort)) {
            return NONE;
        }
        if (sort == 0) {
            return beginGame();
        }
        return sort == 1 ? keepLaw() : keepLine();
    }

    /** Texts are read into spare objects, so that one with a fault leaves the others as they are. */
    private boolean readTape(int sort) {
        if (sort == 0) {
            return spareGame.readFrom(tape);
        }
        return sort == 1 ? spareLaw.readFrom(tape) : spareLine.readFrom(tape);
    }

    private int beginGame() {
        Game former = referee.game;
        referee.game = spareGame;
        spareGame = former;
        tape.length = 0;
        now.begin(referee.game.start);
        hasLine = false;
        hasImage = false;
        values.forget();
        turner.forget();
        return referee.game.places;
    }

    private int keepLaw() {
        int number = referee.lawCount;
        if (number >= MOST_LAWS) {
            return NONE;
        }
        Law unused = referee.laws[number];
        referee.laws[number] = spareLaw;
        spareLaw = unused;
        referee.lawCount = number + 1;
        tape.length = 0;
        return number;
    }

    private int keepLine() {
        if (!hasGame()) {
            return NONE;
        }
        Line former = line;
        line = spareLine;
        spareLine = former;
        hasLine = true;
        tape.length = 0;
        return line.turns;
    }

    public boolean law(int what, int law) {
        if (what < 0 || what > 1 || law < NONE || law >= referee.lawCount) {
            return false;
        }
        if (what == 1) {
            referee.forWays = law;
        } else if (referee.judging != law) {
            referee.judging = law;
            values.forget();
        }
        return true;
    }

    // ---- the stand ----

    private boolean hasGame() {
        return referee.game.places > 0;
    }

    public int at(int place) throws NoSuchElementException {
        if (place < 0 || place >= referee.game.places || place >= MOST_PLACES) {
            throw new NoSuchElementException();
        }
        return (now.number >> 1) / POWERS[place] % 3;
    }

    public boolean set(int number) {
        if (!referee.game.hasNumber(number)) {
            return false;
        }
        now.begin(number);
        return true;
    }

    public int stand() {
        return hasGame() ? now.number : NONE;
    }

    public int moves(int i) {
        if (!hasGame()) {
            return NONE;
        }
        referee.game.list(now.number, moves);
        return i == NONE ? moves.size : moves.codeOf(i);
    }

    public int hold(int one, int other, int pick) {
        if (!hasGame() || pick < 0 || pick > 1) {
            return NONE;
        }
        referee.game.list(now.number, moves);
        if (referee.overAt(now, moves.size) != 0 || moves.whyNot(one, other) != 0) {
            return NONE;
        }
        if (other == NONE && pick != 0) {
            return NONE;
        }
        referee.make(now, moves.nextOf(moves.find(pick == 0 ? one : other)));
        return now.made;
    }

    public int over() {
        if (!hasGame()) {
            return NONE;
        }
        referee.game.list(now.number, moves);
        return referee.overAt(now, moves.size);
    }

    public int judge(int what) {
        if (!hasLine || what < 0 || what > 2) {
            return HIDDEN;
        }
        trial.begin(referee.game.start);
        int wrong = NONE;
        int why = 0;
        for (int turn = 0; turn < line.turns && turn < MOST_TURNS; turn++) {
            why = whyWrong(turn);
            if (why != 0) {
                wrong = turn;
                break;
            }
            int picked = line.pick[turn] == 0 ? line.one[turn] : line.other[turn];
            referee.make(trial, moves.nextOf(moves.find(picked)));
        }
        if (what == 0) {
            return wrong;
        }
        return what == 1 ? why : trial.number;
    }

    /** Why a turn of the line, in the stand that the trial has come to, is none; 0: it is one. */
    private int whyWrong(int turn) {
        referee.game.list(trial.number, moves);
        if (referee.overAt(trial, moves.size) != 0) {
            return 1;
        }
        return turn >= 0 && turn < MOST_TURNS ? moves.whyNot(line.one[turn], line.other[turn]) : 0;
    }

    // ---- values ----

    public int value(int number, int what) {
        int asked = number == NONE ? now.number : number;
        if (what < 0 || what > 1 || !referee.game.hasNumber(asked)) {
            return HIDDEN;
        }
        if (what == 0) {
            values.learnHeld();
            return values.heldAt(asked);
        }
        values.learnPlain();
        return values.plainAt(asked);
    }

    public int proof(int i) {
        if (!hasGame()) {
            return HIDDEN;
        }
        referee.game.list(now.number, moves);
        if (i < 0 || i >= moves.size) {
            return HIDDEN;
        }
        values.learnHeld();
        return values.ofMoveTo(moves.nextOf(i));
    }

    public int pair(int what) {
        if (!hasGame() || what < 0 || what > 2) {
            return NONE;
        }
        values.learnHeld();
        referee.game.list(now.number, moves);
        if (moves.size == 0) {
            return NONE;
        }
        values.markAll(moves);
        moves.findPair();
        if (what == 2) {
            return moves.pairs;
        }
        return moves.codeOf(what == 0 ? moves.first : moves.second);
    }

    /** Whether there can be stands of these numbers of men. */
    private boolean hasMen(int xs, int os, int turn) {
        int places = referee.game.places;
        return hasGame() && xs >= 0 && os >= 0 && xs <= places && os <= places - xs && (turn == X || turn == O);
    }

    public int hurts(int xs, int os, int turn, boolean help, int i) {
        if (!hasMen(xs, os, turn) || i < NONE) {
            return NONE;
        }
        values.learnHeld();
        values.learnPlain();
        values.look(xs, os, turn);
        return values.findUnlike(help, i);
    }

    public int ending(int xs, int os, int turn, int what) {
        if (!hasMen(xs, os, turn) || what < 0 || what > 1) {
            return NONE;
        }
        values.learnHeld();
        values.look(xs, os, turn);
        values.findEnding();
        return what == 0 ? values.hardest : values.roundsOfHardest();
    }

    public int puzzles(int xs, int os, int turn, int what) {
        if (!hasMen(xs, os, turn) || what < 0 || what > 2) {
            return NONE;
        }
        values.learnHeld();
        values.look(xs, os, turn);
        values.findPuzzles(moves);
        if (what == 0) {
            return values.found;
        }
        return what == 1 ? values.hardest : values.roundsOfHardest();
    }

    public int round(int what) {
        if (!hasGame() || what < 0 || what > 1) {
            return NONE;
        }
        values.learnHeld();
        if (values.heldAt(now.number) != 0) {
            return NONE;
        }
        return values.goRound(now.number, moves, what == 1);
    }

    public int all(int what) {
        if (!hasGame() || what < 0 || what > 7) {
            return NONE;
        }
        boolean held = what < 3 || what == 6;
        if (held) {
            values.learnHeld();
        } else {
            values.learnPlain();
        }
        if (what >= 6) {
            return values.mostRounds(held);
        }
        return values.countAll(held, what % 3);
    }

    // ---- threats ----

    public int threats(int what) {
        if (!hasGame() || what < 0 || what > 1) {
            return NONE;
        }
        if (what == 0) {
            return threatsIn(now.number);
        }
        referee.game.list(now.number, moves);
        int biting = 0;
        for (int i = 0; i < moves.size; i++) {
            int next = moves.nextOf(i);
            // with the turn given back, the mover is asked for its threats again
            if (referee.outcome(next) == 0 && threatsIn(next ^ 1) >= 2) {
                biting++;
            }
        }
        return biting * (biting - 1) / 2;
    }

    private int threatsIn(int number) {
        referee.game.list(number, answers);
        int found = 0;
        for (int i = 0; i < answers.size; i++) {
            if (referee.outcome(answers.nextOf(i)) > 0) {
                found++;
            }
        }
        return found;
    }

    // ---- turnings ----

    public int turnings(int number) {
        if (!hasGame()) {
            return NONE;
        }
        if (number == NONE) {
            return turner.countTurnings(referee.game);
        }
        return referee.game.hasNumber(number) ? turner.lowest(referee.game, number) : NONE;
    }

    // ---- matches ----

    private boolean canPlay(int x, int o, int most) {
        return hasGame() && x >= 0 && x <= 3 && o >= 0 && o <= 3 && most >= 1 && most <= MOST_MADE;
    }

    public int match(int x, int o, long seed, int most) {
        if (!canPlay(x, o, most)) {
            return NONE;
        }
        player.prepare(x, o);
        trial.copy(now);
        return player.play(trial, seed, most);
    }

    public int series(int x, int o, int n, int most, int what) {
        if (!canPlay(x, o, most) || n < 1 || n > MOST_SEEDS || what < 0 || what > 1) {
            return NONE;
        }
        player.prepare(x, o);
        int wanted = what == 0 ? X_WON : O_WON;
        int won = 0;
        for (int seed = 0; seed < n; seed++) {
            trial.copy(now);
            if (player.play(trial, seed, most) == wanted) {
                won++;
            }
        }
        return won;
    }

    // ---- images and counts ----

    public int image() {
        if (!hasGame()) {
            return NONE;
        }
        kept.copy(now);
        hasImage = true;
        return now.made;
    }

    public int back() {
        if (!hasImage) {
            return NONE;
        }
        now.copy(kept);
        return now.made;
    }

    public int count(int what) {
        switch (what) {
            case 0:
                return referee.game.places;
            case 1:
                return referee.lawCount;
            case 2:
                return tape.length;
            case 3:
                return now.made;
            case 4:
                return hasLine ? line.turns : NONE;
            case 5:
                return referee.judging;
            case 6:
                return referee.forWays;
            default:
                return HIDDEN;
        }
    }

    private static int signOf(int number) {
        return number > 0 ? 1 : number < 0 ? -1 : 0;
    }

    /** The bytes that were fed, and a cursor that reads them as signs and finds the fault. */
    private static final class Tape {
        private static final int STOP = -1;

        private final int[] signs;
        private int length;
        private int cursor;
        private int wrong;

        Tape() {
            signs = new int[MOST_SIGNS];
            length = 0;
            cursor = 0;
            wrong = NONE;
        }

        static int signsIn(int number) {
            int found = 0;
            for (int shift = 24; shift >= 0; shift -= 8) {
                if (((number >>> shift) & 255) != 0) {
                    found++;
                }
            }
            return found;
        }

        void add(int number) {
            for (int shift = 24; shift >= 0; shift -= 8) {
                int sign = (number >>> shift) & 255;
                if (sign != 0 && length < MOST_SIGNS) {
                    signs[length] = sign;
                    length++;
                }
            }
        }

        void rewind() {
            cursor = 0;
            wrong = NONE;
        }

        /** The next sign that is no blank; STOP behind the last one, and everywhere behind a fault. */
        int peek() {
            if (wrong != NONE) {
                return STOP;
            }
            while (cursor < length && cursor < MOST_SIGNS && signs[cursor] == ' ') {
                cursor++;
            }
            return cursor < length && cursor < MOST_SIGNS ? signs[cursor] : STOP;
        }

        void take() {
            if (cursor < length) {
                cursor++;
            }
        }

        /** The next sign is the fault, unless there was one already. */
        void fail() {
            if (wrong == NONE) {
                peek();
                wrong = cursor;
            }
        }

        boolean takes(int sign) {
            if (peek() != sign) {
                return false;
            }
            take();
            return true;
        }

        void need(int sign) {
            if (!takes(sign)) {
                fail();
            }
        }

        /** The place that the next sign names, of so many; NONE: it names none of them. */
        int placeAhead(int places) {
            int place = peek() - 'a';
            return place >= 0 && place < places ? place : NONE;
        }

        boolean endsWell() {
            if (peek() != STOP) {
                fail();
            }
            return wrong == NONE;
        }
    }

    /** The men of a stand as sets of places (bit i is place i), and whose turn it is. */
    private static final class Men {
        private int x;
        private int o;
        private int turn;

        void read(int number) {
            x = 0;
            o = 0;
            turn = number & 1;
            int rest = number >> 1;
            for (int place = 0; place < MOST_PLACES; place++) {
                int man = rest % 3;
                rest /= 3;
                if (man == 1) {
                    x |= 1 << place;
                } else if (man == 2) {
                    o |= 1 << place;
                }
            }
        }

        void clear(int whose) {
            x = 0;
            o = 0;
            turn = whose;
        }

        /** On to the stand of the next higher number of the same turn: one is added in threes. */
        void step() {
            int carried = o & ~(o + 1);
            int bit = carried + 1;
            o ^= carried;
            if ((x & bit) != 0) {
                x ^= bit;
                o |= bit;
            } else {
                x |= bit;
            }
        }

        int own() {
            return turn == X ? x : o;
        }

        int others() {
            return turn == X ? o : x;
        }
    }

    /** The moves of one stand in order, the stands behind them, and marks by which they are chosen. */
    private static final class Moves {
        private final int[] codes;
        private final int[] nexts;
        private final int[] marks;
        private final Men men;
        private int size;
        private int first;
        private int second;
        private int pairs;

        Moves() {
            codes = new int[MOST_MOVES];
            nexts = new int[MOST_MOVES];
            marks = new int[MOST_MOVES];
            men = new Men();
            size = 0;
            first = NONE;
            second = NONE;
            pairs = 0;
        }

        void add(int code, int next) {
            if (size < MOST_MOVES) {
                codes[size] = code;
                nexts[size] = next;
                size++;
            }
        }

        int codeOf(int i) {
            return i >= 0 && i < size ? codes[i] : NONE;
        }

        int nextOf(int i) {
            return i >= 0 && i < size ? nexts[i] : 0;
        }

        int markOf(int i) {
            return i >= 0 && i < size ? marks[i] : 0;
        }

        void mark(int i, int mark) {
            if (i >= 0 && i < size) {
                marks[i] = mark;
            }
        }

        int find(int code) {
            for (int i = 0; i < size; i++) {
                if (codes[i] == code) {
                    return i;
                }
            }
            return NONE;
        }

        /** Why these cannot be held out (NONE as the other: one alone), as lines are judged; 0: they can. */
        int whyNot(int one, int other) {
            if (find(one) == NONE || (other != NONE && find(other) == NONE)) {
                return 2;
            }
            if (one == other) {
                return 3;
            }
            return other == NONE && size > 1 ? 4 : 0;
        }

        /** The first of the pairs whose lesser mark is the greatest, and how many are as good. */
        void findPair() {
            first = 0;
            second = NONE;
            pairs = 1;
            int best = 0;
            for (int i = 0; i < size; i++) {
                for (int j = i + 1; j < size; j++) {
                    int lesser = Math.min(marks[i], marks[j]);
                    if (second == NONE || lesser > best) {
                        best = lesser;
                        first = i;
                        second = j;
                        pairs = 1;
                    } else if (lesser == best) {
                        pairs++;
                    }
                }
            }
        }

        /** The two with the greatest marks, of like ones the first, held out in the order of moves. */
        void findGreatest() {
            int best = NONE;
            int next = NONE;
            for (int i = 0; i < size; i++) {
                if (best == NONE || marks[i] > markOf(best)) {
                    next = best;
                    best = i;
                } else if (next == NONE || marks[i] > markOf(next)) {
                    next = i;
                }
            }
            holdOut(best, next);
        }

        void holdOut(int one, int other) {
            first = Math.min(one, other);
            second = Math.max(one, other);
        }

        /** Of the two held out the one with the lesser mark, of like ones the first. */
        int lesser() {
            return second == NONE || markOf(first) <= markOf(second) ? first : second;
        }
    }

    /** A game as its text tells it; without places it is none. */
    private static final class Game {
        private final int[] links;
        private final int[] goals;
        private int places;
        private int start;
        private boolean taking;
        private boolean passing;
        private boolean drawing;

        Game() {
            links = new int[MOST_PLACES];
            goals = new int[2];
            places = 0;
            start = 0;
            taking = false;
            passing = false;
            drawing = false;
        }

        boolean readFrom(Tape tape) {
            places = 0;
            start = 0;
            taking = false;
            passing = false;
            drawing = false;
            Arrays.fill(links, 0);
            Arrays.fill(goals, 0);
            tape.rewind();
            readStart(tape);
            tape.need(';');
            readLinks(tape);
            if (tape.takes(';')) {
                readGoals(tape, X);
                tape.need('/');
                readGoals(tape, O);
                if (tape.takes(';')) {
                    readRules(tape);
                }
            }
            return tape.endsWell();
        }

        private void readStart(Tape tape) {
            for (int i = 0; i <= MOST_PLACES; i++) {
                int sign = tape.peek();
                if (sign != 'X' && sign != 'O' && sign != '.') {
                    break;
                }
                if (places >= MOST_PLACES) {
                    tape.fail();
                    return;
                }
                int man = sign == 'X' ? 1 : sign == 'O' ? 2 : 0;
                start += 2 * man * POWERS[places];
                places++;
                tape.take();
            }
            if (places < LEAST_PLACES) {
                tape.fail();
            }
        }

        private void readLinks(Tape tape) {
            for (int i = 0; i < MOST_SIGNS; i++) {
                readLink(tape);
                if (!tape.takes(',')) {
                    return;
                }
            }
        }

        private void readLink(Tape tape) {
            int one = tape.placeAhead(places);
            if (one < 0 || one >= MOST_PLACES) {
                tape.fail();
                return;
            }
            tape.take();
            int other = tape.placeAhead(places);
            if (other < 0 || other >= MOST_PLACES || other == one || isLinked(one, other)) {
                tape.fail();
                return;
            }
            tape.take();
            links[one] |= 1 << other;
            links[other] |= 1 << one;
        }

        private void readGoals(Tape tape, int colour) {
            if (colour < 0 || colour > 1) {
                return;
            }
            for (int i = 0; i <= MOST_PLACES; i++) {
                int place = tape.placeAhead(places);
                if (place == NONE) {
                    return;
                }
                if ((goals[colour] >> place & 1) != 0) {
                    tape.fail();
                    return;
                }
                goals[colour] |= 1 << place;
                tape.take();
            }
        }

        private void readRules(Tape tape) {
            for (int i = 0; i < 3; i++) {
                int sign = tape.peek();
                if (sign == 't' && !taking) {
                    taking = true;
                } else if (sign == 'p' && !passing) {
                    passing = true;
                } else if (sign == 'n' && !drawing) {
                    drawing = true;
                } else {
                    return;
                }
                tape.take();
            }
        }

        boolean isLinked(int one, int other) {
            return (linksOf(one) >> other & 1) != 0;
        }

        int linksOf(int place) {
            return place >= 0 && place < MOST_PLACES ? links[place] : 0;
        }

        boolean isGoal(int colour, int place) {
            return colour >= 0 && colour <= 1 && (goals[colour] >> place & 1) != 0;
        }

        /** How many stands there are: their numbers are below. */
        int stands() {
            return places >= LEAST_PLACES && places <= MOST_PLACES ? 2 * POWERS[places] : 0;
        }

        boolean hasNumber(int number) {
            return number >= 0 && number < stands();
        }

        private int openFor(Men men) {
            int shut = taking ? men.own() : men.x | men.o;
            return ((1 << places) - 1) & ~shut;
        }

        int countMoves(Men men) {
            int own = men.own();
            int open = openFor(men);
            int found = passing ? 1 : 0;
            for (int from = 0; from < MOST_PLACES; from++) {
                if ((own >> from & 1) != 0) {
                    found += Integer.bitCount(links[from] & open);
                }
            }
            return found;
        }

        void list(int number, Moves moves) {
            Men men = moves.men;
            men.read(number);
            int own = men.own();
            int open = openFor(men);
            moves.size = 0;
            for (int from = 0; from < MOST_PLACES; from++) {
                if ((own >> from & 1) != 0) {
                    listFrom(from, links[from] & open, number, moves);
                }
            }
            if (passing) {
                moves.add(PASS, number ^ 1);
            }
        }

        private void listFrom(int from, int targets, int number, Moves moves) {
            if (from < 0 || from >= MOST_PLACES) {
                return;
            }
            int weight = 1 + moves.men.turn;
            int taken = moves.men.others();
            int lifted = (number >> 1) - weight * POWERS[from];
            for (int to = 0; to < MOST_PLACES; to++) {
                if ((targets >> to & 1) != 0) {
                    int off = (taken >> to & 1) != 0 ? 3 - weight : 0;
                    int next = lifted + (weight - off) * POWERS[to];
                    moves.add(10 * from + to, 2 * next + 1 - moves.men.turn);
                }
            }
        }
    }

    /** A law, read into a row of steps for a stack: numbers, letters and operations behind these. */
    private static final class Law {
        private static final int MOST_WITHIN = 6;
        private static final int MOST_DIGITS = 4;
        private static final int MOST_HELD = 64;
        private static final int MOST_WORTH = 1000000;
        private static final int LETTER = 10000;
        private static final int LETTERS = 6;
        private static final int TEST = 10010;
        private static final int ANSWER = 10011;
        private static final int NOT = 10012;
        private static final int AND = 10013;
        private static final int OR = 10014;
        private static final int EQUAL = 10015;
        private static final int LESS = 10016;
        private static final int MORE = 10017;
        private static final int PLUS = 10018;
        private static final int MINUS = 10019;
        private static final int TIMES = 10020;
        private static final int DIVIDED = 10021;

        private final int[] steps;
        private final int[] stack;
        private int length;
        private int top;

        Law() {
            steps = new int[MOST_SIGNS];
            stack = new int[MOST_HELD];
            length = 0;
            top = 0;
        }

        boolean readFrom(Tape tape) {
            length = 0;
            tape.rewind();
            for (int i = 0; i < MOST_SIGNS; i++) {
                readClause(tape);
                if (!tape.takes(';')) {
                    break;
                }
            }
            return tape.endsWell();
        }

        private void write(int step) {
            if (length < MOST_SIGNS) {
                steps[length] = step;
                length++;
            }
        }

        private void readClause(Tape tape) {
            tape.need('y');
            tape.need(':');
            int sign = tape.peek();
            boolean begun = sign != '!' && sign != '(';
            if (begun) {
                readSum(tape, 0);
                // only the sign behind the sum tells whether a condition has begun with it
                if (comparison(tape.peek()) == NONE) {
                    write(ANSWER);
                    return;
                }
            }
            readCondition(tape, 0, begun);
            tape.need('?');
            write(TEST);
            int leap = length;
            write(0);
            readSum(tape, 0);
            write(ANSWER);
            if (leap < MOST_SIGNS) {
                steps[leap] = length;
            }
        }

        /** Begun: its first sum has been read already. */
        private void readCondition(Tape tape, int within, boolean begun) {
            readTruth(tape, within, begun);
            for (int i = 0; i < MOST_SIGNS && tape.takes('|'); i++) {
                readTruth(tape, within, false);
                write(OR);
            }
        }

        private void readTruth(Tape tape, int within, boolean begun) {
            readUnit(tape, within, begun);
            for (int i = 0; i < MOST_SIGNS && tape.takes('&'); i++) {
                readUnit(tape, within, false);
                write(AND);
            }
        }

        private void readUnit(Tape tape, int within, boolean begun) {
            int sign = tape.peek();
            if (!begun && sign == '!') {
                if (opens(tape, within)) {
                    readUnit(tape, within + 1, false);
                    write(NOT);
                }
                return;
            }
            if (!begun && sign == '(') {
                if (opens(tape, within)) {
                    readCondition(tape, within + 1, false);
                    tape.need(')');
                }
                return;
            }
            if (!begun) {
                readSum(tape, within);
            }
            int comparison = comparison(tape.peek());
            if (comparison == NONE) {
                tape.fail();
                return;
            }
            tape.take();
            readSum(tape, within);
            write(comparison);
        }

        /** Takes one of ( [ ! if it may stand so deep. */
        private boolean opens(Tape tape, int within) {
            if (within >= MOST_WITHIN) {
                tape.fail();
                return false;
            }
            tape.take();
            return true;
        }

        private static int comparison(int sign) {
            switch (sign) {
                case '=':
                    return EQUAL;
                case '<':
                    return LESS;
                case '>':
                    return MORE;
                default:
                    return NONE;
            }
        }

        private void readSum(Tape tape, int within) {
            readTerm(tape, within);
            for (int i = 0; i < MOST_SIGNS; i++) {
                int sign = tape.peek();
                if (sign != '+' && sign != '-') {
                    return;
                }
                tape.take();
                readTerm(tape, within);
                write(sign == '+' ? PLUS : MINUS);
            }
        }

        private void readTerm(Tape tape, int within) {
            readAtom(tape, within);
            for (int i = 0; i < MOST_SIGNS; i++) {
                int sign = tape.peek();
                if (sign != '*' && sign != '/') {
                    return;
                }
                tape.take();
                readAtom(tape, within);
                write(sign == '*' ? TIMES : DIVIDED);
            }
        }

        private void readAtom(Tape tape, int within) {
            int sign = tape.peek();
            if (sign == '[') {
                if (opens(tape, within)) {
                    readSum(tape, within + 1);
                    tape.need(']');
                }
            } else if (sign >= '0' && sign <= '9') {
                readNumber(tape);
            } else if (letter(sign) != NONE) {
                write(LETTER + letter(sign));
                tape.take();
            } else {
                tape.fail();
            }
        }

        private static int letter(int sign) {
            switch (sign) {
                case 'a':
                    return 0;
                case 'b':
                    return 1;
                case 'g':
                    return 2;
                case 'h':
                    return 3;
                case 'm':
                    return 4;
                case 'e':
                    return 5;
                default:
                    return NONE;
            }
        }

        private void readNumber(Tape tape) {
            int number = 0;
            for (int digits = 0; digits <= MOST_DIGITS; digits++) {
                int sign = tape.peek();
                if (sign < '0' || sign > '9') {
                    break;
                }
                if (digits == MOST_DIGITS) {
                    tape.fail();
                    return;
                }
                number = 10 * number + sign - '0';
                tape.take();
            }
            write(number);
        }

        private void push(int number) {
            if (top < MOST_HELD) {
                stack[top] = number;
                top++;
            }
        }

        private int pop() {
            if (top <= 0) {
                return 0;
            }
            top--;
            return stack[top];
        }

        /** The worth by these six letters; steps are only ever gone forwards. */
        int worth(int[] letters) {
            top = 0;
            for (int i = 0; i < length && i < MOST_SIGNS; i++) {
                int step = steps[i];
                if (step < LETTER) {
                    push(step);
                } else if (step < LETTER + LETTERS && letters.length == LETTERS) {
                    push(letters[step - LETTER]);
                } else if (step == ANSWER) {
                    return pop();
                } else if (step == NOT) {
                    push(1 - pop());
                } else if (step == TEST) {
                    i++;
                    if (pop() == 0 && i < MOST_SIGNS) {
                        i = Math.max(i, steps[i] - 1);
                    }
                } else {
                    int behind = pop();
                    int ahead = pop();
                    push(step >= PLUS ? reckon(step, ahead, behind) : compare(step, ahead, behind));
                }
            }
            return 0;
        }

        private static int compare(int step, int one, int other) {
            switch (step) {
                case AND:
                    return one & other;
                case OR:
                    return one | other;
                case EQUAL:
                    return one == other ? 1 : 0;
                case LESS:
                    return one < other ? 1 : 0;
                default:
                    return one > other ? 1 : 0;
            }
        }

        private static int reckon(int step, int one, int other) {
            long result;
            if (step == PLUS) {
                result = (long) one + other;
            } else if (step == MINUS) {
                result = (long) one - other;
            } else if (step == TIMES) {
                result = (long) one * other;
            } else {
                result = other == 0 ? 0 : one / other;
            }
            if (result > MOST_WORTH) {
                return MOST_WORTH;
            }
            return result < -MOST_WORTH ? -MOST_WORTH : (int) result;
        }
    }

    /** A line: for each turn the moves held out, and which of them is picked. */
    private static final class Line {
        private final int[] one;
        private final int[] other;
        private final int[] pick;
        private int turns;

        Line() {
            one = new int[MOST_TURNS];
            other = new int[MOST_TURNS];
            pick = new int[MOST_TURNS];
            turns = 0;
        }

        boolean readFrom(Tape tape) {
            turns = 0;
            tape.rewind();
            for (int turn = 0; turn < MOST_TURNS; turn++) {
                readTurn(tape, turn);
                turns = turn + 1;
                // behind the last turn that may be, a ; is left to be the fault
                if (turns == MOST_TURNS || !tape.takes(';')) {
                    break;
                }
            }
            return tape.endsWell();
        }

        private void readTurn(Tape tape, int turn) {
            if (turn < 0 || turn >= MOST_TURNS) {
                return;
            }
            one[turn] = readMove(tape);
            other[turn] = NONE;
            pick[turn] = 0;
            if (!tape.takes(',')) {
                return;
            }
            other[turn] = readMove(tape);
            if (tape.takes('2')) {
                pick[turn] = 1;
            } else {
                tape.need('1');
            }
        }

        private static int readMove(Tape tape) {
            if (tape.takes('-')) {
                return PASS;
            }
            int from = readPlace(tape);
            return 10 * from + readPlace(tape);
        }

        private static int readPlace(Tape tape) {
            int place = tape.placeAhead(MOST_PLACES);
            if (place == NONE) {
                tape.fail();
                return 0;
            }
            tape.take();
            return place;
        }
    }

    /** A stand that a game has come to: who has won there by the law (0: nobody), and the moves made. */
    private static final class Spot {
        private int number;
        private int winner;
        private int made;

        void begin(int stand) {
            number = stand;
            winner = 0;
            made = 0;
        }

        void copy(Spot other) {
            number = other.number;
            winner = other.winner;
            made = other.made;
        }
    }

    /** The game and its laws: what a stand is worth to the one who moved there, and who has won. */
    private static final class Referee {
        private final Law[] laws;
        private final int[] letters;
        private final Men men;
        private Game game;
        private int lawCount;
        private int judging;
        private int forWays;

        Referee() {
            laws = new Law[MOST_LAWS];
            for (int i = 0; i < MOST_LAWS; i++) {
                laws[i] = new Law();
            }
            letters = new int[Law.LETTERS];
            men = new Men();
            game = new Game();
            lawCount = 0;
            judging = NONE;
            forWays = NONE;
        }

        /** The worth by a law (NONE: none) for the one who is not to move in a stand with so many moves. */
        int worthFor(int law, Men stand, int moves) {
            if (law < 0 || law >= lawCount || law >= MOST_LAWS) {
                return 0;
            }
            int own = stand.others();
            int others = stand.own();
            letters[0] = Integer.bitCount(own);
            letters[1] = Integer.bitCount(others);
            letters[2] = Integer.bitCount(own & game.goals[stand.turn == X ? O : X]);
            letters[3] = Integer.bitCount(others & game.goals[stand.turn == X ? X : O]);
            letters[4] = moves;
            letters[5] = game.places - letters[0] - letters[1];
            return laws[law].worth(letters);
        }

        int worthBehind(int law, int number) {
            if (law == NONE) {
                return 0;
            }
            men.read(number);
            return worthFor(law, men, game.countMoves(men));
        }

        /** Above 0: the one who moved to this stand has won by the law; below 0: it has lost. */
        int outcome(int number) {
            return signOf(worthBehind(judging, number));
        }

        void make(Spot spot, int next) {
            int outcome = outcome(next);
            int mover = (next & 1) == O ? X_WON : O_WON;
            spot.number = next;
            spot.made++;
            spot.winner = outcome == 0 ? 0 : outcome > 0 ? mover : X_WON + O_WON - mover;
        }

        /** Whether it is over, where whose turn it is has so many moves: 0 no, else who has won, or DRAWN. */
        int overAt(Spot spot, int moves) {
            if (spot.winner != 0 || moves > 0) {
                return spot.winner;
            }
            if (game.drawing) {
                return DRAWN;
            }
            return (spot.number & 1) == X ? O_WON : X_WON;
        }
    }

    /**
     * What each stand is worth. The steps of the document are not gone one by one: a stand that has got
     * its value is told to those ahead of it, and these get theirs as soon as enough of their moves have
     * one. As stands wait in a queue, that comes out in the very order of the steps.
     */
    private static final class Values {
        private static final int BAD = 256;

        private final Referee referee;
        private final Men men;
        private int[] held;
        private int[] plain;
        private int[] facts;
        private int[] tally;
        private int[] queue;
        private int[] filled;
        private boolean byTwo;
        private boolean knowsFacts;
        private boolean knowsHeld;
        private boolean knowsPlain;
        private int size;
        private int waiting;
        private int xs;
        private int os;
        private int turn;
        private int found;
        private int hardest;

        Values(Referee referee) {
            this.referee = referee;
            men = new Men();
            held = new int[0];
            plain = held;
            facts = held;
            tally = held;
            queue = held;
            filled = held;
            hardest = NONE;
        }

        void forget() {
            knowsFacts = false;
            knowsHeld = false;
            knowsPlain = false;
        }

        int heldAt(int number) {
            return number >= 0 && number < held.length ? held[number] : 0;
        }

        int plainAt(int number) {
            return number >= 0 && number < plain.length ? plain[number] : 0;
        }

        private int movesAt(int number) {
            return number >= 0 && number < facts.length ? facts[number] >> 2 : 0;
        }

        private int outcomeAt(int number) {
            return number >= 0 && number < facts.length ? (facts[number] & 3) - 1 : 0;
        }

        void learnHeld() {
            if (!knowsHeld) {
                learnFacts();
                filled = held;
                byTwo = true;
                fillIn();
                knowsHeld = true;
            }
        }

        void learnPlain() {
            if (!knowsPlain) {
                learnFacts();
                filled = plain;
                byTwo = false;
                fillIn();
                knowsPlain = true;
            }
        }

        /** Rows are made anew only for a game that needs longer ones than all before it. */
        private void makeRoom() {
            size = referee.game.stands();
            if (size > held.length) {
                held = new int[size];
                plain = new int[size];
                facts = new int[size];
                tally = new int[size];
                queue = new int[size];
            }
        }

        /** For each stand how many moves it has, and whether the law judges the one who moved there. */
        private void learnFacts() {
            if (knowsFacts) {
                return;
            }
            makeRoom();
            men.clear(X);
            for (int number = 0; number < size && number < facts.length; number++) {
                men.turn = number & 1;
                int moves = referee.game.countMoves(men);
                int outcome = signOf(referee.worthFor(referee.judging, men, moves));
                facts[number] = 4 * moves + outcome + 1;
                if (men.turn == O) {
                    men.step();
                }
            }
            knowsFacts = true;
        }

        private void fillIn() {
            Arrays.fill(filled, 0);
            Arrays.fill(tally, 0);
            waiting = 0;
            for (int number = 0; number < size && number < filled.length; number++) {
                int outcome = outcomeAt(number);
                boolean stuck = movesAt(number) == 0 && !referee.game.drawing;
                if (stuck) {
                    filled[number] = -SURE;
                }
                if (outcome < 0) {
                    tellAhead(number, 1 - SURE);
                } else if (outcome > 0 || stuck) {
                    tellAhead(number, SURE - 1);
                }
            }
            for (int i = 0; i < waiting && i < queue.length; i++) {
                int number = queue[i];
                if (outcomeAt(number) == 0 && number >= 0 && number < filled.length) {
                    tellAhead(number, forOther(filled[number]));
                }
            }
        }

        /** The value of a move to a stand of this value. */
        private static int forOther(int value) {
            return value == 0 ? 0 : value > 0 ? 1 - value : -1 - value;
        }

        /** All moves that lead to this stand have this value. */
        private void tellAhead(int number, int value) {
            Game game = referee.game;
            men.read(number);
            int movers = men.others();
            int empty = ((1 << game.places) - 1) & ~(men.x | men.o);
            for (int to = 0; to < MOST_PLACES; to++) {
                if ((movers >> to & 1) != 0) {
                    tellAheadFrom(number, to, game.links[to] & empty, value);
                }
            }
            if (game.passing) {
                hear(number ^ 1, value);
            }
        }

        private void tellAheadFrom(int number, int to, int froms, int value) {
            if (to < 0 || to >= MOST_PLACES) {
                return;
            }
            int mover = 1 - men.turn;
            int weight = 1 + mover;
            int lifted = (number >> 1) - weight * POWERS[to];
            int taken = (3 - weight) * POWERS[to];
            for (int from = 0; from < MOST_PLACES; from++) {
                if ((froms >> from & 1) != 0) {
                    int ahead = lifted + weight * POWERS[from];
                    hear(2 * ahead + mover, value);
                    if (referee.game.taking) {
                        hear(2 * (ahead + taken) + mover, value);
                    }
                }
            }
        }

        /** One more move of a stand has got its value, which may settle the stand. */
        private void hear(int number, int value) {
            if (number < 0 || number >= filled.length || number >= tally.length || waiting >= queue.length) {
                return;
            }
            if (filled[number] != 0) {
                return;
            }
            tally[number] += value > 0 ? 1 : BAD;
            int moves = movesAt(number);
            boolean two = byTwo && moves > 1;
            boolean settled;
            if (value > 0) {
                settled = tally[number] % BAD >= (two ? 2 : 1);
            } else {
                settled = tally[number] / BAD >= (two ? moves - 1 : moves);
            }
            if (settled) {
                filled[number] = value;
                queue[waiting] = number;
                waiting++;
            }
        }

        /** By what is held. */
        int ofMoveTo(int number) {
            int outcome = outcomeAt(number);
            return outcome == 0 ? forOther(heldAt(number)) : outcome * (SURE - 1);
        }

        void markAll(Moves moves) {
            for (int i = 0; i < moves.size; i++) {
                moves.mark(i, ofMoveTo(moves.nextOf(i)));
            }
        }

        /** Which stands the next search goes through. */
        void look(int xs, int os, int turn) {
            this.xs = xs;
            this.os = os;
            this.turn = turn;
            found = 0;
            hardest = NONE;
            men.clear(turn);
        }

        private boolean isLookedFor() {
            return Integer.bitCount(men.x) == xs && Integer.bitCount(men.o) == os;
        }

        /** The i-th stand in which holding out hurts, or helps; how many, if i is NONE. */
        int findUnlike(boolean help, int i) {
            for (int number = turn; number < size; number += 2) {
                int gain = heldAt(number) - plainAt(number);
                if ((help ? gain > 0 : gain < 0) && isLookedFor()) {
                    if (found == i) {
                        return number;
                    }
                    found++;
                }
                men.step();
            }
            return i == NONE ? found : NONE;
        }

        void findEnding() {
            for (int number = turn; number < size; number += 2) {
                if (heldAt(number) > 0 && isLookedFor()) {
                    weigh(number);
                }
                men.step();
            }
        }

        void findPuzzles(Moves moves) {
            for (int number = turn; number < size; number += 2) {
                if (heldAt(number) > 0 && isLookedFor() && winningMoves(number, moves) == 2) {
                    found++;
                    weigh(number);
                }
                men.step();
            }
        }

        private int winningMoves(int number, Moves moves) {
            referee.game.list(number, moves);
            int winning = 0;
            for (int i = 0; i < moves.size; i++) {
                if (ofMoveTo(moves.nextOf(i)) > 0) {
                    winning++;
                }
            }
            return winning;
        }

        private void weigh(int number) {
            if (hardest == NONE || heldAt(number) < heldAt(hardest)) {
                hardest = number;
            }
        }

        int roundsOfHardest() {
            return hardest == NONE ? NONE : SURE - heldAt(hardest);
        }

        /** How many moves till a stand is there again, or how many of these lie between; NONE: it ends. */
        int goRound(int from, Moves moves, boolean within) {
            Arrays.fill(tally, 0);
            int number = from;
            for (int made = 0; made <= size; made++) {
                if (number < 0 || number >= tally.length) {
                    return NONE;
                }
                if (tally[number] != 0) {
                    return within ? made + 1 - tally[number] : made;
                }
                tally[number] = made + 1;
                referee.game.list(number, moves);
                if (moves.size == 0) {
                    return NONE;
                }
                markAll(moves);
                moves.findPair();
                number = moves.nextOf(moves.lesser());
            }
            return NONE;
        }

        /** How many stands are won (sort 0), lost (1), neither (2). */
        int countAll(boolean byHeld, int sort) {
            int sign = sort == 0 ? 1 : sort == 1 ? -1 : 0;
            int sum = 0;
            for (int number = 0; number < size; number++) {
                if (signOf(byHeld ? heldAt(number) : plainAt(number)) == sign) {
                    sum++;
                }
            }
            return sum;
        }

        int mostRounds(boolean byHeld) {
            int most = 0;
            for (int number = 0; number < size; number++) {
                int value = byHeld ? heldAt(number) : plainAt(number);
                if (value > 0) {
                    most = Math.max(most, SURE - value);
                }
            }
            return most;
        }
    }

    /** The turnings of a net. */
    private static final class Turner {
        private final int[] partner;
        private final int[] man;
        private Game game;
        private int turnings;
        private int best;

        Turner() {
            partner = new int[MOST_PLACES];
            man = new int[MOST_PLACES];
            game = new Game();
            turnings = NONE;
            best = 0;
        }

        void forget() {
            turnings = NONE;
        }

        /**
         * Nine places may have 9! turnings, so they are not gone through one by one: how many places
         * each one can come to, while those ahead of it stay, are multiplied.
         */
        int countTurnings(Game net) {
            if (turnings != NONE) {
                return turnings;
            }
            game = net;
            int product = 1;
            for (int place = 0; place < net.places && place < MOST_PLACES; place++) {
                int reached = 0;
                for (int to = place; to < net.places; to++) {
                    if (fits(place, to, 0, place)) {
                        partner[place] = to;
                        reached += canFinish(place + 1) ? 1 : 0;
                    }
                }
                partner[place] = place;
                product *= reached;
            }
            turnings = product;
            return turnings;
        }

        private boolean canFinish(int place) {
            if (place < 0 || place >= game.places || place >= MOST_PLACES) {
                return true;
            }
            for (int to = 0; to < game.places; to++) {
                if (fits(place, to, 0, place)) {
                    partner[place] = to;
                    if (canFinish(place + 1)) {
                        return true;
                    }
                }
            }
            return false;
        }

        /** Whether two places can be partners, beside those of the places from .. below. */
        private boolean fits(int place, int other, int from, int below) {
            if (!areAlike(place, other)) {
                return false;
            }
            for (int k = from; k < below && k >= 0 && k < MOST_PLACES; k++) {
                if (partner[k] == other || game.isLinked(place, k) != game.isLinked(other, partner[k])) {
                    return false;
                }
            }
            return true;
        }

        private boolean areAlike(int place, int other) {
            return Integer.bitCount(game.linksOf(place)) == Integer.bitCount(game.linksOf(other))
                && game.isGoal(X, place) == game.isGoal(X, other)
                && game.isGoal(O, place) == game.isGoal(O, other);
        }

        int lowest(Game net, int number) {
            game = net;
            int rest = number >> 1;
            for (int place = 0; place < MOST_PLACES; place++) {
                man[place] = rest % 3;
                rest /= 3;
            }
            best = number >> 1;
            lower(net.places - 1, 0);
            return 2 * best + (number & 1);
        }

        /** Places get their men from the highest one down, as these count most. */
        private void lower(int place, int sum) {
            if (place < 0 || place >= MOST_PLACES) {
                best = Math.min(best, sum);
                return;
            }
            for (int from = 0; from < game.places && from < MOST_PLACES; from++) {
                int more = sum + man[from] * POWERS[place];
                if (more < best && fits(place, from, place + 1, game.places) && !hasTwinAhead(from, place)) {
                    partner[place] = from;
                    lower(place - 1, more);
                }
            }
        }

        /** Of places that can change with one another alone and have like men, one is enough to try. */
        private boolean hasTwinAhead(int from, int place) {
            for (int k = 0; k < from && k < MOST_PLACES && from < MOST_PLACES; k++) {
                boolean alike = man[k] == man[from] && areAlike(k, from);
                int both = 1 << k | 1 << from;
                if (alike && (game.linksOf(k) & ~both) == (game.linksOf(from) & ~both) && isFree(k, place)) {
                    return true;
                }
            }
            return false;
        }

        private boolean isFree(int from, int place) {
            for (int k = place + 1; k < game.places && k >= 0 && k < MOST_PLACES; k++) {
                if (partner[k] == from) {
                    return false;
                }
            }
            return true;
        }
    }

    /** Plays matches by ways. */
    private static final class Player {
        private final Referee referee;
        private final Values values;
        private final Moves moves;
        private int wayOfX;
        private int wayOfO;
        private long drawn;

        Player(Referee referee, Values values) {
            this.referee = referee;
            this.values = values;
            moves = new Moves();
            wayOfX = 0;
            wayOfO = 0;
            drawn = 0;
        }

        void prepare(int x, int o) {
            wayOfX = x;
            wayOfO = o;
            if (x == 2 || o == 2) {
                values.learnHeld();
            }
        }

        /** Who has won from there: 1 X, 2 O, 0 nobody. */
        int play(Spot spot, long seed, int most) {
            drawn = seed;
            for (int made = 0; made <= most; made++) {
                referee.game.list(spot.number, moves);
                int over = referee.overAt(spot, moves.size);
                if (over != 0) {
                    return over == DRAWN ? 0 : over;
                }
                if (made < most) {
                    boolean isX = (spot.number & 1) == X;
                    holdOutBy(isX ? wayOfX : wayOfO);
                    referee.make(spot, moves.nextOf(pickBy(isX ? wayOfO : wayOfX)));
                }
            }
            return 0;
        }

        private void holdOutBy(int way) {
            if (moves.size < 2) {
                moves.first = 0;
                moves.second = NONE;
            } else if (way == 1) {
                markByLaw();
                moves.findGreatest();
            } else if (way == 2) {
                values.markAll(moves);
                moves.findPair();
            } else if (way == 3) {
                int one = draw(moves.size);
                int other = draw(moves.size - 1);
                moves.holdOut(one, other >= one ? other + 1 : other);
            } else {
                moves.holdOut(0, 1);
            }
        }

        /** A single move is neither picked nor drawn for. */
        private int pickBy(int way) {
            if (moves.second == NONE || way == 0) {
                return moves.first;
            }
            if (way == 3) {
                return draw(2) == 0 ? moves.first : moves.second;
            }
            if (way == 1) {
                markByLaw();
            } else {
                values.markAll(moves);
            }
            return moves.lesser();
        }

        private void markByLaw() {
            for (int i = 0; i < moves.size; i++) {
                moves.mark(i, referee.worthBehind(referee.forWays, moves.nextOf(i)));
            }
        }

        private int draw(int n) {
            drawn = drawn * 6364136223846793005L + 1442695040888963407L;
            return n > 0 ? (int) ((drawn >>> 33) % n) : 0;
        }
    }
}
