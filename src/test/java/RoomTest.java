import java.lang.management.ManagementFactory;

/** All calls of a run live in one room: once the rows of the largest game are there, calls make no more. */
public final class RoomTest {
    private static final int ROWS = 5 * 39366 * 4;

    private RoomTest() {
    }

    public static void main(String[] args) {
        Check check = new Check();
        HoldTwo game = new HoldTwo();
        int[] text = words("XX.....OO;ab,bc,de,ef,gh,hi,ad,dg,be,eh,cf,fi;ghi/abc;tp");
        int[] law = words("y:g>1&!(h>1)?[g-h]*2;y:b=0?1");
        int[] line = words("bc,-1;hg,-2;ad,ba1");
        askAll(game, text, law, line);
        long before = made();
        long empty = made() - before;
        before = made();
        for (int i = 0; i < 10; i++) {
            askAll(game, text, law, line);
        }
        long more = made() - before - empty;
        check.that("calls again", more <= 4096, more + " bytes were made");
        before = made();
        HoldTwo other = new HoldTwo();
        long one = made() - before - empty;
        check.that("an object", one <= 20000, one + " bytes were made");
        before = made();
        askAll(other, text, law, line);
        long rows = made() - before - empty;
        check.that("the rows of a game", rows <= ROWS + 8192, rows + " bytes were made");
        check.finish();
    }

    private static long made() {
        return ((com.sun.management.ThreadMXBean) ManagementFactory.getThreadMXBean()).getCurrentThreadAllocatedBytes();
    }

    private static int[] words(String text) {
        int[] words = new int[40];
        for (int i = 0; i < words.length; i++) {
            words[i] = Check.word(text, 4 * i);
        }
        return words;
    }

    private static void feed(HoldTwo game, int[] w) {
        game.end(0);
        for (int i = 0; i + 4 < w.length; i += 5) {
            game.feed(w[i], w[i + 1], w[i + 2], w[i + 3], w[i + 4]);
        }
    }

    private static void askAll(HoldTwo game, int[] text, int[] law, int[] line) {
        feed(game, law);
        game.fault(1);
        game.text(1);
        feed(game, text);
        game.fault(0);
        game.text(0);
        feed(game, line);
        game.fault(2);
        game.text(2);
        game.law(0, HoldTwo.NONE);
        game.law(0, 0);
        game.law(1, 0);
        for (int i = 0; i < 9; i++) {
            game.moves(i);
            game.judge(i);
            game.value(i, 0);
            game.value(i, 1);
            game.proof(i);
            game.pair(i);
            game.hurts(2, 2, 0, false, i);
            game.ending(2, 2, 0, i);
            game.puzzles(2, 2, 1, i);
            game.round(i);
            game.threats(i);
            game.turnings(i);
            game.match(i, 3 - i, i, 200);
            game.series(i, 2, 20, 200, 0);
            game.all(i);
            game.count(i);
        }
        game.turnings(-1);
        game.image();
        game.hold(game.moves(0), game.moves(1), 1);
        game.over();
        game.back();
    }

}
