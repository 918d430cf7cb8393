import java.util.NoSuchElementException;

/** Numbers from all ends in every call and state: nothing is thrown but by at(), and what is refused changes nothing. */
public final class EdgesTest {
    private static final int[] EDGES = {Integer.MIN_VALUE, -1000000, -100, -2, -1, 0, 1, 2, 3, 4, 8, 9, 10, 20, 21, 99, 100, 200, 201,
        39364, 39365, 39366, 100000, Integer.MAX_VALUE};
    private static final Check CHECK = new Check();

    private EdgesTest() {
    }

    public static void main(String[] args) {
        HoldTwo none = new HoldTwo();
        askAll("no game", none);
        HoldTwo small = new HoldTwo();
        Check.text(small, 0, "X.;ab");
        askAll("two places", small);
        HoldTwo large = new HoldTwo();
        Check.text(large, 1, "y:g>1?1;y:b<1?1");
        large.law(0, 0);
        large.law(1, 0);
        Check.text(large, 0, "XX..X..OO;ab,bc,de,ef,gh,hi,ad,dg,be,eh,cf,fi,ae,ce,ge,ie;hi/ab;tp");
        askAll("nine places", large);
        Check.text(large, 2, "ad,-1");
        askAll("nine places and a line", large);
        CHECK.finish();
    }

    private static void askAll(String name, HoldTwo game) {
        try {
            for (int a : EDGES) {
                askOne(name, game, a);
                for (int b : EDGES) {
                    askTwo(name, game, a, b);
                }
            }
        } catch (RuntimeException e) {
            CHECK.that(name, false, "threw " + e);
        }
    }

    private static String state(HoldTwo game) {
        StringBuilder text = new StringBuilder();
        for (int i = 0; i < 7; i++) {
            text.append(game.count(i)).append(' ');
        }
        return text.append(game.stand()).append(' ').append(game.over()).append(' ').append(game.judge(2)).toString();
    }

    private static void askOne(String name, HoldTwo game, int a) {
        String before = state(game);
        try {
            int man = game.at(a);
            CHECK.that(name + " at(" + a + ")", a >= 0 && a < game.count(0) && man >= 0 && man <= 2, "answered " + man);
        } catch (NoSuchElementException e) {
            CHECK.that(name + " at(" + a + ")", a < 0 || a >= game.count(0), "threw");
        }
        game.fault(a);
        game.moves(a);
        game.judge(a);
        game.proof(a);
        game.pair(a);
        game.round(a);
        game.threats(a);
        game.turnings(a);
        game.all(a);
        game.count(a);
        CHECK.due(name + " end(" + a + ")", game.end(a), a == 0);
        CHECK.due(name + " text(" + a + ")", game.text(a), -1);
        CHECK.that(name + " asked with " + a, before.equals(state(game)), "changed " + before + " to " + state(game));
    }

    private static void askTwo(String name, HoldTwo game, int a, int b) {
        String before = state(game);
        game.value(a, b);
        game.hurts(a, b, 0, true, -1);
        game.hurts(2, 2, a, false, b);
        game.ending(a, b, 1, 1);
        game.ending(2, 2, a, b);
        game.puzzles(a, b, 1, 1);
        game.puzzles(2, 2, a, b);
        game.match(a, b, a, 3);
        game.match(0, 3, b, a);
        game.series(a, b, 2, 2, 1);
        game.series(3, 3, a, b, 0);
        game.series(1, 2, 1, a, b);
        CHECK.that(name + " asked with " + a + ", " + b, before.equals(state(game)), "changed " + before + " to " + state(game));
        boolean known = (a == 0 || a == 1) && b >= -1 && b < game.count(1);
        if (!known) {
            CHECK.due(name + " law(" + a + "," + b + ")", game.law(a, b), false);
        }
        if (game.hold(a, b, 2) != -1 || game.hold(a, a, 0) != -1 || !before.equals(state(game))) {
            CHECK.that(name + " hold of " + a + ", " + b, false, "was not refused");
        }
    }
}
