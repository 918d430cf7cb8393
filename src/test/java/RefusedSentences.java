import java.util.NoSuchElementException;

/** What is refused answers as told and changes nothing: a twin that was not asked answers all else alike. */
final class RefusedSentences {
    private static final int NONE = Said.NONE;
    private static final int HIDDEN = Said.HIDDEN;
    private static final int HIGH = Said.HIGH;
    private static final int LOW = Said.LOW;
    private static final int THROWN = -7;
    private static final int FALSE = 0;
    private final Said said;
    private Stage stage = RefusedSentences::fresh;

    /** Makes an object and brings it to where the calls are refused. */
    private interface Stage {
        HoldTwo made();
    }

    private interface Call {
        int on(HoldTwo game);
    }

    RefusedSentences(Said said) {
        this.said = said;
    }

    void ask() {
        said.in("Terms");
        said.that("What is refused answers as told and changes nothing.");
        Stage[] stages = {RefusedSentences::fresh, RefusedSentences::begun, RefusedSentences::won, RefusedSentences::shut};
        for (Stage next : stages) {
            stage = next;
            tapes();
            texts();
            laws();
            stands();
            questions();
            matches();
        }
        stage = RefusedSentences::fresh;
        withoutGame();
        stage = RefusedSentences::won;
        full();
    }

    private static HoldTwo fresh() {
        HoldTwo game = new HoldTwo();
        Check.text(game, 1, "y:g");
        game.law(0, 0);
        Check.tape(game, "ab;cd");
        return game;
    }

    /** Two moves were made, an image stands one ahead, a line is there; nothing has ended. */
    private static HoldTwo begun() {
        HoldTwo game = fresh();
        Check.text(game, 1, "y:m-a");
        Check.text(game, 1, "y:0-g");
        game.law(1, 1);
        Check.text(game, 0, "X.O..;ab,bc,cd,de,ea;d/e;tp");
        Check.text(game, 2, "ab,-1;cb,-1;-");
        game.hold(1, 99, 0);
        game.image();
        game.hold(23, 99, 0);
        Check.tape(game, "y:1");
        return game;
    }

    /** X has won by the law, an image stands ahead of that; four laws are there, and the tape is full. */
    private static HoldTwo won() {
        HoldTwo game = begun();
        Check.text(game, 1, "y:1");
        game.image();
        game.hold(10, 12, 1);
        game.hold(34, 99, 1);
        game.hold(21, 23, 1);
        Check.tape(game, "y:2" + " ".repeat(157));
        return game;
    }

    /** X has no move, and no law judges. */
    private static HoldTwo shut() {
        HoldTwo game = new HoldTwo();
        Check.text(game, 0, "OX.;ab");
        Check.text(game, 2, "ba;-");
        Check.tape(game, "X.;ab,");
        return game;
    }

    private static int on(boolean answer) {
        return answer ? 1 : 0;
    }

    private static int at(HoldTwo game, int place) {
        try {
            return game.at(place);
        } catch (NoSuchElementException e) {
            return THROWN;
        }
    }

    /** Some 300 answers, among them those of the tape cut short, of other laws and of the image. */
    private static String answers(HoldTwo game) {
        StringBuilder all = new StringBuilder();
        tell(all, game.stand(), game.over(), game.turnings(NONE), game.turnings(game.stand()), game.moves(NONE), game.pair(2));
        for (int i = 0; i < 8; i++) {
            tell(all, game.count(i), at(game, i), game.moves(i), game.judge(i), game.proof(i), game.pair(i), game.all(i));
        }
        for (int i = 0; i < 3; i++) {
            tell(all, game.value(NONE, i), game.hurts(1, 1, i, true, NONE), game.hurts(1, 1, i, false, i), game.ending(1, 1, 0, i));
            tell(all, game.puzzles(1, 1, 1, i), game.round(i), game.threats(i), game.match(i, 3, i, 30), game.series(3, i, 9, 40, 1));
        }
        for (int cut = 0; cut < 4; cut++) {
            tell(all, game.fault(0), game.fault(1), game.fault(2), on(game.end(game.count(2) - 1)));
        }
        for (int law = NONE; law < 5; law++) {
            tell(all, on(game.law(0, law)), game.all(0), game.all(6), game.judge(0), on(game.law(1, law)), game.match(1, 1, 3, 9));
        }
        tell(all, game.back(), game.stand(), game.over(), game.count(3));
        return all.toString();
    }

    private static void tell(StringBuilder all, int... answers) {
        for (int answer : answers) {
            all.append(answer).append(' ');
        }
    }

    private void refused(String name, int want, Call call) {
        HoldTwo game = stage.made();
        HoldTwo twin = stage.made();
        said.due(name, call.on(game), want);
        said.due(name + ", and all else is as it was", answers(game).equals(answers(twin)), true);
    }

    private void tapes() {
        for (int n : new int[] {-1, 161, LOW, HIGH}) {
            refused("end(" + n + ")", FALSE, game -> on(game.end(n)));
        }
        refused("end(count(2) + 1)", FALSE, game -> on(game.end(game.count(2) + 1)));
        for (int sort : new int[] {-1, 3, LOW, HIGH}) {
            refused("fault(" + sort + ")", -2, game -> game.fault(sort));
        }
    }

    private void texts() {
        for (int sort : new int[] {-1, 3, LOW, HIGH, 0}) {
            refused("text(" + sort + ")", NONE, game -> game.text(sort));
        }
        String[] faulty = {"X.;aa", "y:1+", "ab;"};
        for (int sort = 0; sort < 3; sort++) {
            int length = faulty[sort].length();
            String text = faulty[sort];
            int refusedSort = sort;
            Stage former = stage;
            stage = () -> {
                HoldTwo game = former.made();
                Check.tape(game, text);
                return game;
            };
            refused("text(" + sort + ") of " + text, NONE, game -> game.text(refusedSort));
            refused("the tape has " + text, HIDDEN, game -> game.text(refusedSort) == NONE && game.count(2) == length ? HIDDEN : 0);
            stage = former;
        }
    }

    private void laws() {
        int[][] wrong = {{0, 4}, {1, 4}, {0, -2}, {1, -2}, {2, 0}, {-1, 0}, {2, NONE}, {LOW, NONE}, {HIGH, 0}, {0, LOW}, {1, HIGH}};
        for (int[] pair : wrong) {
            refused("law(" + pair[0] + "," + pair[1] + ")", FALSE, game -> on(game.law(pair[0], pair[1])));
        }
        refused("law(0, count(1))", FALSE, game -> on(game.law(0, game.count(1))));
        refused("law(1, count(1))", FALSE, game -> on(game.law(1, game.count(1))));
    }

    private void stands() {
        for (int place : new int[] {-1, 9, LOW, HIGH}) {
            refused("at(" + place + ")", THROWN, game -> at(game, place));
        }
        for (int number : new int[] {-1, 486, 39366, LOW, HIGH}) {
            refused("set(" + number + ")", FALSE, game -> on(game.set(number)));
        }
        for (int i : new int[] {-2, 22, LOW, HIGH}) {
            refused("moves(" + i + ")", NONE, game -> game.moves(i));
        }
        int[][] wrong = {{1, 1, 0}, {98, NONE, 0}, {NONE, NONE, 0}, {NONE, 99, 1}, {10, 12, 2}, {10, 12, -1}, {99, NONE, 0}, {99, 99, 0},
            {10, 55, 0}, {55, 10, 1}, {LOW, HIGH, 0}, {HIGH, LOW, 1}, {10, NONE, 0}};
        for (int[] held : wrong) {
            refused("hold(" + held[0] + "," + held[1] + "," + held[2] + ")", NONE, game -> game.hold(held[0], held[1], held[2]));
        }
    }

    private void questions() {
        for (int what : new int[] {-1, 8, LOW, HIGH}) {
            refused("judge(" + what + ")", HIDDEN, game -> game.judge(what));
            refused("value(NONE," + what + ")", HIDDEN, game -> game.value(NONE, what));
            refused("value(0," + what + ")", HIDDEN, game -> game.value(0, what));
            refused("pair(" + what + ")", NONE, game -> game.pair(what));
            refused("ending(1,1,0," + what + ")", NONE, game -> game.ending(1, 1, 0, what));
            refused("puzzles(1,1,0," + what + ")", NONE, game -> game.puzzles(1, 1, 0, what));
            refused("round(" + what + ")", NONE, game -> game.round(what));
            refused("threats(" + what + ")", NONE, game -> game.threats(what));
            refused("all(" + what + ")", NONE, game -> game.all(what));
            refused("count(" + what + ")", HIDDEN, game -> game.count(what));
        }
        for (int number : new int[] {-2, 39366, LOW, HIGH}) {
            refused("value(" + number + ",0)", HIDDEN, game -> game.value(number, 0));
            refused("proof(" + number + ")", HIDDEN, game -> game.proof(number));
            refused("turnings(" + number + ")", NONE, game -> game.turnings(number));
            refused("hurts(1,1,0,false," + number + ")", NONE, game -> game.hurts(1, 1, 0, false, number));
        }
        int[][] men = {{-1, 1, 0}, {1, -1, 0}, {5, 5, 1}, {10, 0, 0}, {0, 10, 0}, {1, 1, 2}, {1, 1, -1}, {HIGH, HIGH, 0}, {LOW, LOW, 1}};
        for (int[] some : men) {
            refused("hurts", NONE, game -> game.hurts(some[0], some[1], some[2], true, NONE));
            refused("ending", NONE, game -> game.ending(some[0], some[1], some[2], 0));
            refused("puzzles", NONE, game -> game.puzzles(some[0], some[1], some[2], 0));
        }
    }

    private void matches() {
        int[][] wrong = {{-1, 0, 1}, {4, 0, 1}, {0, -1, 1}, {0, 4, 1}, {0, 0, 0}, {0, 0, 201}, {LOW, HIGH, 1}, {0, 0, LOW}, {0, 0, HIGH}};
        for (int[] way : wrong) {
            refused("match", NONE, game -> game.match(way[0], way[1], 5, way[2]));
            refused("series", NONE, game -> game.series(way[0], way[1], 5, way[2], 0));
        }
        for (int n : new int[] {0, -1, 21, LOW, HIGH}) {
            refused("series of " + n, NONE, game -> game.series(3, 3, n, 5, 0));
        }
        for (int what : new int[] {-1, 2, LOW, HIGH}) {
            refused("series of what " + what, NONE, game -> game.series(3, 3, 5, 5, what));
        }
    }

    private void withoutGame() {
        refused("text(2)", NONE, game -> game.text(2));
        refused("at(0)", THROWN, game -> at(game, 0));
        refused("set(0)", FALSE, game -> on(game.set(0)));
        refused("stand()", NONE, HoldTwo::stand);
        refused("moves(NONE)", NONE, game -> game.moves(NONE));
        refused("hold(1,NONE,0)", NONE, game -> game.hold(1, NONE, 0));
        refused("over()", NONE, HoldTwo::over);
        refused("judge(0)", HIDDEN, game -> game.judge(0));
        refused("value(NONE,0)", HIDDEN, game -> game.value(NONE, 0));
        refused("proof(0)", HIDDEN, game -> game.proof(0));
        refused("pair(0)", NONE, game -> game.pair(0));
        refused("hurts", NONE, game -> game.hurts(0, 0, 0, false, NONE));
        refused("ending", NONE, game -> game.ending(0, 0, 0, 0));
        refused("puzzles", NONE, game -> game.puzzles(0, 0, 0, 0));
        refused("round(0)", NONE, game -> game.round(0));
        refused("threats(0)", NONE, game -> game.threats(0));
        refused("turnings(NONE)", NONE, game -> game.turnings(NONE));
        refused("match", NONE, game -> game.match(0, 0, 0, 1));
        refused("series", NONE, game -> game.series(0, 0, 1, 1, 0));
        refused("all(0)", NONE, game -> game.all(0));
        refused("image()", NONE, HoldTwo::image);
        refused("back()", NONE, HoldTwo::back);
    }

    private void full() {
        said.due("X has won", stage.made().over(), 1);
        refused("a byte more than 160", NONE, game -> game.feed(0, 0, 0, 0, 1));
        refused("twenty bytes more than 160", NONE, game -> game.feed(-1, -1, -1, -1, -1));
        refused("a fifth law", NONE, game -> game.text(1));
        said.due("O may pass", stage.made().moves(0), 99);
        refused("it is over", NONE, game -> game.hold(99, NONE, 0));
    }
}
