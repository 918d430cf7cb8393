import java.io.IOException;
import java.lang.reflect.Constructor;
import java.lang.reflect.Method;
import java.lang.reflect.Modifier;
import java.nio.charset.StandardCharsets;
import java.nio.file.Files;
import java.nio.file.Path;
import java.util.NoSuchElementException;

/** What the document says ahead of its terms, and what it does not promise. */
final class FirstSentences {
    private static final int NONE = Said.NONE;
    private static final int HIDDEN = Said.HIDDEN;
    private static final int CALLS = 512;
    private static final String RING = "X..O;ab,bc,cd,da;cd/ab;tp";
    private static final String WINS = "y:b=0|g>1?1;y:h>1?0-1";
    /** X wins from the middle by both of two moves; the third one leads nowhere. */
    private static final String STAR = "X....;ab,ac,ad,de;bc/;pn";
    private final Said said;
    private final String source;

    FirstSentences(Said said) {
        this.said = said;
        source = sourceText();
    }

    private static String sourceText() {
        try {
            return Files.readString(Path.of("src/main/java/HoldTwo.java"), StandardCharsets.US_ASCII);
        } catch (IOException e) {
            throw new IllegalStateException(e);
        }
    }

    void ask() {
        games();
        holdingOut();
        worths();
        pairs();
        endings();
        others();
        calls();
        kind();
        methods();
        notPromised();
    }

    private void games() {
        said.in("What it is");
        said.that("Hold out two: games told as texts on a net of places, with men of two colours,");
        HoldTwo game = said.game(RING);
        said.due("places", game.count(0), 4);
        int[] men = {1, 0, 0, 2};
        for (int place = 0; place < 4; place++) {
            said.due("at(" + place + ")", game.at(place), men[place]);
        }
        said.noPlace(game, 4);
        said.that("goals and rules of stepping, taking, passing;");
        int[] moves = {1, 3, 99};
        said.due("moves", game.moves(NONE), 3);
        for (int i = 0; i < 3; i++) {
            said.due("moves(" + i + ")", game.moves(i), moves[i]);
        }
        HoldTwo bare = said.game("X..O;ab,bc,cd,da");
        said.due("a step alone", bare.moves(NONE), 1);
        said.due("to the empty place", bare.moves(0), 1);
        said.due("turnings without goals", bare.turnings(NONE), 8);
        said.due("turnings with goals", game.turnings(NONE), 2);
    }

    private void holdingOut() {
        said.that("whoever is to move holds out two moves, of which the other one picks that which is made;");
        for (int pick = 0; pick < 2; pick++) {
            HoldTwo game = said.game(RING);
            said.due("one alone", game.hold(1, NONE, 0), NONE);
            said.due("a step and a pass", game.hold(1, 99, pick), 1);
            said.due("where X is", game.at(pick == 0 ? 1 : 0), 1);
            said.due("it is O's turn", game.stand() & 1, 1);
        }
        said.that("who wins told as a law;");
        HoldTwo game = said.game(RING, WINS);
        said.due("X takes", game.hold(3, 99, 0), 1);
        said.due("X has won", game.over(), 1);
        HoldTwo without = said.game(RING);
        said.due("X takes", without.hold(3, 99, 0), 1);
        said.due("O can pass, and no law is there", without.over(), 0);
    }

    private void worths() {
        said.that("what each stand is worth when two are held out, and plainly, to the last round;");
        HoldTwo game = said.game(STAR, "y:g");
        said.due("two good moves", game.value(NONE, 0), 99999);
        said.due("one good move", game.value(NONE, 1), 99999);
        HoldTwo ring = said.game("X...;ab,bc,cd,da;c/;p", "y:g");
        said.due("one of two is not good", ring.value(NONE, 0), 0);
        said.due("plainly in three", ring.value(NONE, 1), 99997);
        for (String law : new String[] {WINS, "y:g", "y:m=1?1"}) {
            HoldTwo all = said.game(RING, law);
            int won = 0;
            for (int number = 0; number < 162; number++) {
                int rounds = 100000 - all.value(number, 0);
                if (rounds < 100000) {
                    won++;
                    toTheEnd(all, number, rounds);
                }
            }
            said.due("as many as are won", all.all(0), won);
        }
    }

    /** By whatever picks, it is won in so many rounds at most, if the winner holds out the pair. */
    private void toTheEnd(HoldTwo game, int number, int rounds) {
        for (int pick = 0; pick < 2; pick++) {
            game.set(number);
            for (int made = 0; made < rounds && game.over() == 0; made++) {
                int other = game.pair(1);
                said.due("a move", game.hold(game.pair(0), other, other == NONE ? 0 : pick), made + 1);
            }
            said.due("who has won " + number, game.over(), 1 + (number & 1));
        }
    }

    private void pairs() {
        said.that("the pair to hold out and its proof by both picks;");
        for (String law : new String[] {WINS, "y:g", "y:0-g", "y:m-2", "y:a-b"}) {
            HoldTwo game = said.game("XX.O;ab,bc,cd,da,ac;cd/ab;tp", law);
            for (int number = 0; number < 162; number++) {
                said.due("set(" + number + ")", game.set(number), true);
                int lesser = proofOf(game, game.pair(0));
                if (game.pair(1) != NONE) {
                    lesser = Math.min(lesser, proofOf(game, game.pair(1)));
                }
                said.due("the lesser of both in " + number, lesser, game.value(NONE, 0));
            }
        }
        said.that("stands in which holding out hurts;");
        HoldTwo ring = said.game("X...;ab,bc,cd,da;c/;p", "y:g");
        said.due("how many", ring.hurts(1, 0, 0, false, NONE), 4);
        for (int i = 0; i < 4; i++) {
            int number = ring.hurts(1, 0, 0, false, i);
            said.due("less in " + number, ring.value(number, 0) < ring.value(number, 1), true);
        }
        said.that("rounds that never end;");
        said.due("round", ring.round(0), 4);
        said.due("in the round", ring.round(1), 4);
    }

    private static int proofOf(HoldTwo game, int move) {
        for (int i = 0; i < game.moves(NONE); i++) {
            if (game.moves(i) == move) {
                return game.proof(i);
            }
        }
        return HIDDEN;
    }

    private void endings() {
        said.that("endings by men, puzzles with just one pair, the hardest;");
        HoldTwo game = said.game("X...;ab,ac,ad;bc/;n", "y:g");
        int puzzles = game.puzzles(1, 0, 0, 0);
        int hardest = game.puzzles(1, 0, 0, 1);
        said.due("puzzles", puzzles, 1);
        said.due("the hardest", hardest, 2);
        said.due("its rounds", game.puzzles(1, 0, 0, 2), 1);
        said.due("its stand", game.set(hardest), true);
        said.due("just one pair", game.pair(2), 1);
        said.due("one of it", game.pair(0), 1);
        said.due("the other one", game.pair(1), 2);
        said.due("an ending", game.ending(1, 0, 0, 0), 2);
        said.due("how long", game.ending(1, 0, 0, 1), 1);
        said.due("of no men none", game.ending(0, 0, 0, 0), NONE);
        // with passes X at b wins by a pass at once, or by a way over a and back
        HoldTwo longer = said.game(STAR, "y:g");
        said.due("X at b and X at c", longer.puzzles(1, 0, 0, 0), 2);
        said.due("the hardest", longer.puzzles(1, 0, 0, 1), 6);
        said.due("its rounds", longer.puzzles(1, 0, 0, 2), 3);
        said.due("an ending", longer.ending(1, 0, 0, 0), 6);
        said.due("how long", longer.ending(1, 0, 0, 1), 3);
    }

    private void others() {
        HoldTwo game = said.game(STAR, "y:g");
        said.that("threats;");
        said.due("a to b, a to c", game.threats(0), 2);
        said.that("turnings of the net;");
        said.due("b and c", game.turnings(NONE), 2);
        said.due("c is b", game.turnings(18), 6);
        said.that("games told as texts and judged;");
        said.due("a line", Check.text(game, 2, "ad,-1;-;da,de1;-;ab,ac2;-"), 6);
        said.due("the sixth turn", game.judge(0), 5);
        said.due("is over", game.judge(1), 1);
        said.due("X at c, O's turn", game.judge(2), 19);
        said.that("ways of playing, matches by draws;");
        said.due("the first two", game.match(0, 0, 0, 9), 1);
        said.due("the pair", game.match(2, 2, 0, 9), 1);
        int won = 0;
        for (int seed = 0; seed < 20; seed++) {
            won += game.match(3, 3, seed, 2) == 1 ? 1 : 0;
        }
        said.due("not all of them", won > 0 && won < 20, true);
        said.due("as many as in a series", game.series(3, 3, 20, 2, 0), won);
        said.that("images.");
        said.due("image", game.image(), 0);
        said.due("a to b", game.hold(1, 2, 0), 1);
        said.due("over", game.over(), 1);
        said.due("back", game.back(), 0);
        said.due("not over", game.over(), 0);
        said.due("as it was", game.stand(), 2);
    }

    private void calls() {
        said.that("An object is used for at most 512 calls after it has been made; what later calls answer is free.");
        HoldTwo game = new HoldTwo();
        for (int call = 1; call <= CALLS; call++) {
            said.due("call " + call, game.count(0), 0);
        }
        HoldTwo played = said.game("X.O;ab,bc;/;p");
        for (int made = 1; made <= CALLS; made++) {
            said.due("pass " + made, played.hold((made & 1) == 1 ? 1 : 21, 99, 1), made);
        }
        said.due("moves made", played.count(3), CALLS);
        HoldTwo fed = new HoldTwo();
        for (int call = 0; call < 4 * CALLS; call++) {
            fed.feed(-1, -1, -1, -1, call);
        }
        said.due("no more than there may be", fed.count(2) <= 160, true);
    }

    private void inSource(String face) {
        said.due("in the source: " + face, source.contains(face), true);
    }

    private void kind() {
        said.in("The public face");
        said.that("import java.util.NoSuchElementException;");
        inSource("import java.util.NoSuchElementException;");
        said.that("public final class HoldTwo {");
        int kind = HoldTwo.class.getModifiers();
        said.due("public and final", Modifier.isPublic(kind) && Modifier.isFinal(kind), true);
        said.due("without a package", HoldTwo.class.getName().equals("HoldTwo"), true);
        said.that("public static final int NONE = -1;");
        inSource("public static final int NONE = -1;");
        said.due("NONE", HoldTwo.NONE, -1);
        said.that("public static final int HIDDEN = -1000000;");
        inSource("public static final int HIDDEN = -1000000;");
        said.due("HIDDEN", HoldTwo.HIDDEN, -1000000);
        said.that("public HoldTwo();");
        Constructor<?>[] made = HoldTwo.class.getDeclaredConstructors();
        said.due("one constructor", made.length, 1);
        said.due("without parameters", made[0].getParameterCount(), 0);
        said.due("public", Modifier.isPublic(made[0].getModifiers()), true);
    }

    private void methods() {
        String[] face = {
            "int feed(int a, int b, int c, int d, int e)", "boolean end(int n)", "int fault(int sort)", "int text(int sort)",
            "boolean law(int what, int law)", "int at(int place) throws NoSuchElementException", "boolean set(int number)",
            "int stand()", "int moves(int i)", "int hold(int one, int other, int pick)", "int over()", "int judge(int what)",
            "int value(int number, int what)", "int proof(int i)", "int pair(int what)",
            "int hurts(int xs, int os, int turn, boolean help, int i)", "int ending(int xs, int os, int turn, int what)",
            "int puzzles(int xs, int os, int turn, int what)", "int round(int what)", "int threats(int what)",
            "int turnings(int number)", "int match(int x, int o, long seed, int most)",
            "int series(int x, int o, int n, int most, int what)", "int all(int what)", "int image()", "int back()",
            "int count(int what)"};
        for (String method : face) {
            said.that("public " + method + ";");
            inSource("    public " + method + " {");
        }
        said.that("}");
        int open = 0;
        for (Method method : HoldTwo.class.getDeclaredMethods()) {
            boolean isAt = method.getName().equals("at");
            boolean isOpen = !Modifier.isPrivate(method.getModifiers());
            open += isOpen ? 1 : 0;
            said.due(method + " throws", method.getExceptionTypes().length, isAt ? 1 : 0);
            if (isAt) {
                said.due("at throws", method.getExceptionTypes()[0] == NoSuchElementException.class, true);
            }
        }
        said.due("no other method is open", open, face.length);
    }

    private void notPromised() {
        said.in("Not promised");
        said.that("How the state is held inside the object is free, as are the speed of each call, the text of toString and the behaviour of equals and hashCode.");
        for (String own : new String[] {"toString(", "equals(", "hashCode("}) {
            said.due("a " + own + " of its own", source.contains(own), false);
        }
        said.that("Use of one object from several threads at once is not promised to be safe.");
        HoldTwo one = said.game(RING, WINS);
        HoldTwo other = said.game(STAR, "y:g");
        said.due("a move of one", one.hold(1, 99, 0), 1);
        said.due("is none of the other", other.count(3), 0);
        said.that("Nothing is promised beyond the answers and state changes described above, and nothing about an object after its 512th call.");
        said.due("asked twice", one.value(NONE, 0), one.value(NONE, 0));
        said.due("no move by asking", one.count(3), 1);
    }
}
