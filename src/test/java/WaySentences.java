import java.math.BigInteger;

/** What the document says of ways of playing, draws, matches and images. */
final class WaySentences {
    private static final int NONE = Said.NONE;
    /** A man in the middle of three others, of which b is its goal; who cannot move has not lost. */
    private static final String STAR = "X...;ab,ac,ad;b/;n";
    /** Likewise, with eight others. */
    private static final String WIDE = "X........;ab,ac,ad,ae,af,ag,ah,ai;";
    /** X wanders in a row of five, O between two places; both may pass. */
    private static final String WANDER = "X....O.;ab,bc,cd,de,fg;e/;p";
    private static final long[] SEEDS = {0, 1, 2, 3, 4, 5, 19, 20, -1, -2, Long.MAX_VALUE, Long.MIN_VALUE, 1L << 33, 1L << 32, -(1L << 40)};
    private final Said said;

    WaySentences(Said said) {
        this.said = said;
    }

    void ask() {
        said.in("Terms");
        wayZero();
        wayOne();
        wayTwo();
        wayThree();
        draws();
        matches();
        series();
        images();
    }

    private void winner(String name, HoldTwo game, int x, int o, int most, int want) {
        said.due(name + ": match(" + x + "," + o + ",0," + most + ")", game.match(x, o, 0, most), want);
    }

    private void wayZero() {
        said.that("WAYS: 0 holds out the first two MOVES, picks the first;");
        winner("b and c, b is picked", said.game(STAR, "y:g"), 0, 0, 1, 1);
        winner("c is not", said.game("X...;ab,ac,ad;c/;n", "y:g"), 0, 0, 1, 0);
        HoldTwo third = said.game("X...;ab,ac,ad;bd/;n", "y:g>0?0-1", "y:0-g");
        winner("b and c, the lesser worth is b", third, 0, 1, 1, 2);
        winner("b and c, the lesser value is b", third, 0, 2, 1, 2);
        winner("one alone", said.game("X..;ab;b/;n", "y:g"), 0, 0, 1, 1);
        HoldTwo byO = said.game("O...;ab,ac,ad;/b;n", "y:g");
        byO.set(5);
        winner("O's b and c", byO, 0, 0, 1, 2);
    }

    private void wayOne() {
        said.that("1 holds out the two with the greatest WORTH (by the LAW that is told for WAYS, behind them, for the one who moves; of several the first),");
        winner("c and d have the greatest", said.game("X...;ab,ac,ad;cd/;n", "y:g", "y:g"), 1, 0, 1, 1);
        winner("c and d by a law that is not the one that judges", said.game(STAR, "y:g", "y:0-g"), 1, 0, 1, 0);
        winner("b and c, the first of three", said.game(STAR, "y:g", "y:7"), 1, 0, 1, 1);
        winner("no law: b and c", said.game(STAR, "y:g"), 1, 0, 1, 1);
        winner("b, the first of like ones beside c", said.game("X...;ab,ac,ad;c/;n", "y:g=0?1", "y:g"), 1, 0, 1, 1);
        winner("d is not held out beside c", said.game("X....;ab,ac,ad,ae;d/;n", "y:g", "y:g=0?1"), 1, 1, 1, 0);
        HoldTwo byO = said.game("O....;ab,ac,ad,ae;ab/de;n", "y:g", "y:g-h");
        byO.set(5);
        winner("O's d and e, for O", byO, 0, 1, 1, 2);
        winner("by m: b shuts O in", said.game("X...O;ab,ac,ad,be;c/;n", "y:g", "y:1-m"), 1, 1, 1, 1);
        winner("one alone", said.game("X..;ab;b/;n", "y:g", "y:g"), 1, 1, 1, 1);
        // X holds out b and d, O picks b; O has one move alone; X holds out a and e, O picks a
        winner("two of two behind two of three", said.game("X....O.;ab,ac,ad,be,fg;de/", "y:g", "y:g"), 1, 0, 3, 0);
        said.that("picks that with the lesser WORTH (of like ones the first);");
        winner("c of b and c", said.game(STAR, "y:g", "y:g"), 0, 1, 1, 0);
        winner("b of b and c, for the one who moves", said.game(STAR, "y:g", "y:0-g"), 0, 1, 1, 1);
        winner("b of like ones", said.game(STAR, "y:g", "y:3"), 0, 1, 1, 1);
        winner("b of like ones without a law", said.game(STAR, "y:g"), 0, 1, 1, 1);
        winner("by the law for ways", said.game(STAR, "y:g", "y:b"), 0, 1, 1, 1);
    }

    private void wayTwo() {
        said.that("2 holds out PAIR, picks the one of the lesser VALUE (HELD; of like ones the first);");
        winner("c and d", said.game("X...;ab,ac,ad;cd/;n", "y:g"), 2, 0, 1, 1);
        winner("c and d, either picked", said.game("X...;ab,ac,ad;cd/;n", "y:g"), 2, 2, 1, 1);
        winner("b and c, b is picked", said.game(STAR, "y:g"), 2, 0, 1, 1);
        winner("b and c, c is picked", said.game(STAR, "y:g"), 2, 2, 1, 0);
        winner("of b and c the lesser", said.game(STAR, "y:g"), 0, 2, 1, 0);
        winner("of like ones the first", said.game("X...;ab,ac,ad;bc/;n", "y:g"), 0, 2, 1, 1);
        HoldTwo row = said.game("XO.;ab,bc;c/a;t", "y:b=0?1");
        row.set(15);
        winner("X picks the later win", row, 2, 2, 1, 0);
        winner("which comes", row, 2, 2, 2, 0);
        winner("in three", row, 2, 2, 3, 2);
        winner("X picks the first", row, 0, 2, 1, 2);
        winner("one alone", said.game("X..;ab;b/;n", "y:g"), 2, 2, 1, 1);
        HoldTwo layers = said.game("X........;ab,ac,bd,be,cd,ce,df,dg,ef,eg,fh,fi,gh,gi;hi/;p", "y:g");
        winner("seven moves", layers, 2, 2, 7, 1);
        winner("not in six", layers, 2, 2, 6, 0);
    }

    private static int[] drawn(long seed, int... counts) {
        BigInteger round = BigInteger.ONE.shiftLeft(64);
        BigInteger x = BigInteger.valueOf(seed).mod(round);
        int[] draws = new int[counts.length];
        for (int i = 0; i < counts.length; i++) {
            x = x.multiply(new BigInteger("6364136223846793005")).add(new BigInteger("1442695040888963407")).mod(round);
            draws[i] = x.shiftRight(33).mod(BigInteger.valueOf(counts[i])).intValue();
        }
        return draws;
    }

    /** The two of n moves that are drawn, in order. */
    private static int[] two(int one, int other) {
        int second = other >= one ? other + 1 : other;
        return new int[] {Math.min(one, second), Math.max(one, second)};
    }

    private void wayThree() {
        said.that("3 draws two (a draw of the MOVES, then of those left; held out in order), picks by a draw of 2.");
        for (long seed : SEEDS) {
            int[] both = drawn(seed, 8, 7, 2);
            int[] held = two(both[0], both[1]);
            int alone = drawn(seed, 2)[0];
            for (int leaf = 0; leaf < 8; leaf++) {
                HoldTwo game = said.game(WIDE + (char) ('b' + leaf) + "/;n", "y:g");
                said.due("X draws, O picks the first, seed " + seed, game.match(3, 0, seed, 1), held[0] == leaf ? 1 : 0);
                said.due("X draws, O picks the lesser, seed " + seed, game.match(3, 2, seed, 1), 0);
                said.due("both draw, seed " + seed, game.match(3, 3, seed, 1), held[both[2]] == leaf ? 1 : 0);
                said.due("O draws, seed " + seed, game.match(0, 3, seed, 1), alone == leaf ? 1 : 0);
            }
        }
        oneAlone();
    }

    /** X goes from a to b or c, O has one move alone, and then X goes on to d, the second of three, if so drawn. */
    private void oneAlone() {
        for (long seed : SEEDS) {
            int[] draws = drawn(seed, 2, 1, 2, 3, 2, 2);
            int third = two(draws[3], draws[4])[draws[5]];
            HoldTwo game = said.game("X....O.;ab,ac,bd,be,cd,ce,fg;d/", "y:g");
            said.due("O's one alone takes no draw, seed " + seed, game.match(3, 3, seed, 3), third == 1 ? 1 : 0);
            said.due("X wins not ahead of that", game.match(3, 3, seed, 2), 0);
        }
    }

    private void draws() {
        said.that("A draw of n: x, at first the seed, becomes x times 6364136223846793005 and 1442695040888963407 (64 bits, going round); then (x shifted right by 33, without sign) modulo n.");
        HoldTwo game = said.game("X..O..;ab,ac,bc,de,df,ef;/", "y:0", "y:0");
        said.due("six moves by draws end nowhere", game.match(3, 3, 1, 6), 0);
        for (long seed : SEEDS) {
            int[] draws = drawn(seed, 2, 2);
            for (int first = 0; first < 2; first++) {
                // X goes by a draw of 2 to b or c, then O by the next draw to e or f, which is its goal
                String goal = first == 0 ? "e" : "f";
                HoldTwo two = said.game("X..O..;ab,ac,de,df;/" + goal, "y:g");
                said.due("the second draw, seed " + seed, two.match(3, 3, seed, 2), secondOf(seed) == first ? 2 : 0);
            }
            HoldTwo picks = said.game("X..;ab,ac;c/;n", "y:g");
            said.due("the first draw, seed " + seed, picks.match(0, 3, seed, 1), draws[0]);
        }
    }

    /** X's two moves take a draw of 2, one of 1 and one of 2; then O's likewise. */
    private static int secondOf(long seed) {
        return drawn(seed, 2, 1, 2, 2, 1, 2)[5];
    }

    private void matches() {
        said.that("A MATCH from the STAND as it is by a WAY of X, one of O, a seed, 1 .. 200 MOVES at most: 1 X, 2 O HAS WON, 0 nobody (DRAWN, or not by then).");
        HoldTwo star = said.game(STAR, "y:g");
        winner("X", star, 0, 0, 1, 1);
        winner("no move at most", star, 0, 0, 0, NONE);
        winner("two hundred", star, 0, 0, 200, 1);
        winner("more than that", star, 0, 0, 201, NONE);
        star.set(18);
        winner("from c to a, which is drawn", star, 0, 0, 9, 0);
        HoldTwo lost = said.game(STAR, "y:0-g");
        winner("O, as X has lost", lost, 0, 0, 1, 2);
        winner("O, as X has no move", said.game("OX;ab"), 0, 0, 1, 2);
        winner("drawn", said.game("OX;ab;/;n"), 0, 0, 1, 0);
        HoldTwo shut = said.game("X.O;ab,bc");
        winner("O has no move behind the one", shut, 0, 0, 1, 1);
        HoldTwo wander = said.game(WANDER, "y:g");
        said.due("O's turn", wander.set(wander.stand() + 1), true);
        said.due("not by the 199th move", wander.match(3, 3, 168, 199), 0);
        said.due("by the 200th", wander.match(3, 3, 168, 200), 1);
        said.due("the stand is as it was", wander.stand(), 975);
        said.due("no move was made", wander.count(3), 0);
        HoldTwo over = said.game("X..O;ab,bc,cd;b/", "y:g");
        said.due("X wins", over.hold(1, NONE, 0), 1);
        winner("as it is, it is over", over, 0, 0, 9, 1);
    }

    private void series() {
        said.that("SERIES: seeds 0 .. n less 1 (n 1 .. 20): how many X won, O won.");
        HoldTwo game = said.game("X........;ab,ac,ad,ae,af,ag,ah,ai;bcde/;n", "y:g>0?1;y:0-1");
        for (int n = 1; n <= 20; n++) {
            int won = 0;
            for (int seed = 0; seed < n; seed++) {
                int[] both = drawn(seed, 8, 7, 2);
                won += two(both[0], both[1])[both[2]] < 4 ? 1 : 0;
            }
            said.due("X won, n " + n, game.series(3, 3, n, 1, 0), won);
            said.due("O won, n " + n, game.series(3, 3, n, 1, 1), n - won);
        }
        said.due("n 0", game.series(3, 3, 0, 1, 0), NONE);
        said.due("n 21", game.series(3, 3, 21, 1, 0), NONE);
        HoldTwo drawn = said.game("OX;ab;/;n");
        said.due("X won none", drawn.series(3, 3, 20, 9, 0), 0);
        said.due("O won none", drawn.series(3, 3, 20, 9, 1), 0);
    }

    private void images() {
        said.that("An IMAGE keeps the STAND, whether it is OVER, and how many MOVES were made; BACK: they are so again.");
        HoldTwo game = said.game("X..O;ab,bc,cd;b/", "y:g");
        said.due("image", game.image(), 0);
        said.due("X wins", game.hold(1, NONE, 0), 1);
        said.due("back", game.back(), 0);
        said.due("the stand", game.stand(), 110);
        said.due("it is not over", game.over(), 0);
        said.due("no move was made", game.count(3), 0);
        said.due("X wins again", game.hold(1, NONE, 0), 1);
        said.due("image", game.image(), 1);
        said.due("set", game.set(0), true);
        said.due("back", game.back(), 1);
        said.due("the stand", game.stand(), 115);
        said.due("X has won", game.over(), 1);
        said.due("one move was made", game.count(3), 1);
        said.due("O cannot go on", game.hold(32, NONE, 0), NONE);
        said.due("the law does not matter", game.law(0, NONE), true);
        said.due("back once more", game.back(), 1);
        said.due("X has won", game.over(), 1);
    }
}
