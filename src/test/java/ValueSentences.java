/** What the document says of values, pairs, endings, rounds, threats and turnings. */
final class ValueSentences {
    private static final int NONE = Said.NONE;
    /** On a row of three X takes O at once; O would take as well, or step back and take later. */
    private static final String ROW = "XO.;ab,bc;c/a;t";
    private static final String TAKES = "y:b=0?1";
    /** X goes from a by two ways each to h or i, which takes it four moves; O has nothing but a pass. */
    private static final String LAYERS = "X........;ab,ac,bd,be,cd,ce,df,dg,ef,eg,fh,fi,gh,gi;hi/;p";
    /** Nine places in a row, the last one a goal; O has nothing but a pass. */
    private static final String CORRIDOR = "X........;ab,bc,cd,de,ef,fg,gh,hi;i/;p";
    /** Wins of up to eleven rounds; what is due here was found step by step, as the document tells it. */
    private static final String DEEP = ".XX.X;de,bd,cb,ec,ad;dc/;t";
    private final Said said;

    ValueSentences(Said said) {
        this.said = said;
    }

    void ask() {
        said.in("Terms");
        standValues();
        moveValues();
        held();
        plain();
        stepByStep();
        pair();
        proof();
        hurts();
        ending();
        puzzles();
        round();
        overByTheLaw();
        threats();
        bites();
        turnings();
        lowest();
    }

    /** A man at a, from which it goes to b, c, d; O has no man, so that it is drawn behind all but the goals. */
    private HoldTwo star(String goals, String law) {
        return said.game("X...;ab,ac,ad;" + goals + "/;n", law);
    }

    private void standValues() {
        said.that("VALUE of a STAND for whose turn it is: k ROUNDS (MOVES) to a win 100,000 less k, to a loss k less 100,000, else 0.");
        HoldTwo game = said.game(ROW, TAKES);
        said.due("no move: lost with no round", game.value(0, 0), -100000);
        said.due("O takes: won in one", game.value(43, 0), 99999);
        said.due("X must step ahead: lost in two", game.value(38, 0), -99998);
        said.due("O may have to step back: won in three", game.value(15, 0), 99997);
        said.due("nobody ever wins", said.game("X.;ab;/;p").value(NONE, 0), 0);
        said.due("plainly", said.game("X.;ab;/;p").value(NONE, 1), 0);
    }

    private void moveValues() {
        said.that("VALUE of a MOVE: 99,999, if one HAS WON by it; -99,999, if one HAS LOST; else by that of the STAND behind it, for the other one: v above 0: 1 less v; v below 0: -1 less v; 0: 0.");
        HoldTwo game = said.game(ROW, TAKES);
        game.set(15);
        said.due("O has won by it", game.proof(0), 99999);
        said.due("v is -99998", game.proof(1), 99997);
        game.set(38);
        said.due("v is 99999", game.proof(0), -99998);
        HoldTwo lost = said.game(ROW, "y:b=0?0-1");
        said.due("X has lost by it", lost.proof(0), -99999);
        HoldTwo shut = said.game("X.O;ab,bc");
        said.due("v is -100000", shut.proof(0), 99999);
        HoldTwo both = said.game("X.O;ab,bc", "y:m=0?0-1");
        said.due("by the law, not by the stand behind it", both.proof(0), -99999);
        said.due("v is 0", said.game("X.;ab;/;p").proof(0), 0);
        said.due("v is 0 as it is drawn", said.game("X.O;ab,bc;/;n").proof(0), 0);
        HoldTwo layers = said.game(LAYERS, "y:g");
        layers.set(2 * 27 + 1);
        said.due("v is 99997", layers.proof(0), -99996);
        // by a to b one has won or lost, whatever O's only move there does; by a to d it is drawn
        HoldTwo loses = said.game("X.O.;ab,ad,cd;b/d;n", "y:0-g");
        said.due("X has lost by it, though O would lose behind it", loses.proof(0), -99999);
        said.due("drawn", loses.proof(1), 0);
        said.due("plain", loses.value(NONE, 1), 0);
        said.due("held", loses.value(NONE, 0), -99999);
        HoldTwo wins = said.game("X.O.;ab,ad,cd;b/d;n", "y:g");
        said.due("X has won by it, though O would win behind it", wins.proof(0), 99999);
        said.due("plain", wins.value(NONE, 1), 99999);
        said.due("held", wins.value(NONE, 0), 0);
    }

    private void held() {
        said.that("HELD: the lesser VALUE of the two MOVES held out, that being the greatest it can have by any pair; of one MOVE alone that.");
        said.due("one of three wins, the others are 0", star("b", "y:g").value(NONE, 0), 0);
        said.due("two of three win", star("bd", "y:g").value(NONE, 0), 99999);
        said.due("two others of three win", star("cd", "y:g").value(NONE, 0), 99999);
        said.due("three of three win", star("bcd", "y:g").value(NONE, 0), 99999);
        said.due("one of three loses", star("c", "y:0-g").value(NONE, 0), 0);
        said.due("two of three lose", star("cd", "y:0-g").value(NONE, 0), -99999);
        said.due("three of three lose", star("bcd", "y:0-g").value(NONE, 0), -99999);
        HoldTwo row = said.game(ROW, TAKES);
        said.due("two win, one of them later", row.value(15, 0), 99997);
        said.due("one alone wins", row.value(14, 0), 99999);
        said.due("one alone loses", row.value(38, 0), -99998);
        HoldTwo one = said.game("X..;ab,bc;b/;n", "y:g");
        said.due("one alone wins", one.value(NONE, 0), 99999);
        said.due("one alone wins", one.value(18, 0), 99999);
        HoldTwo mixed = said.game("X..;ab,ac;b/;n", "y:g>0?1;y:0-1");
        said.due("one wins, one loses", mixed.value(NONE, 0), -99999);
    }

    private void plain() {
        said.that("PLAIN: the greatest VALUE of a MOVE.");
        said.due("one of three wins", star("d", "y:g").value(NONE, 1), 99999);
        said.due("two of three lose", star("bc", "y:0-g").value(NONE, 1), 0);
        said.due("three of three lose", star("bcd", "y:0-g").value(NONE, 1), -99999);
        HoldTwo row = said.game(ROW, TAKES);
        said.due("two win, one of them later", row.value(15, 1), 99999);
        said.due("one alone loses", row.value(38, 1), -99998);
        HoldTwo mixed = said.game("X..;ab,ac;b/;n", "y:g>0?1;y:0-1");
        said.due("one wins, one loses", mixed.value(NONE, 1), 99999);
        HoldTwo loses = said.game("X..O;ab,bc,cd;/c", "y:g");
        said.due("O comes to c behind any move", loses.value(NONE, 1), -99998);
    }

    private void stepByStep() {
        said.that("Both step by step: at first a STAND without MOVES is -100,000 (0 by RULE n), all others 0;");
        HoldTwo game = said.game("OX;ab");
        HoldTwo drawn = said.game("OX;ab;/;n");
        for (int what = 0; what < 2; what++) {
            said.due("X without moves", game.value(10, what), -100000);
            said.due("O without moves", game.value(11, what), -100000);
            said.due("X without men", game.value(0, what), -100000);
            said.due("the highest number", game.value(17, what), -100000);
            said.due("X without moves, drawn", drawn.value(10, what), 0);
            said.due("the highest number, drawn", drawn.value(17, what), 0);
        }
        said.that("in each step each STAND that is 0 (and has MOVES) gets its VALUE by those that are there from the steps ahead; till a step changes nothing.");
        HoldTwo layers = said.game(LAYERS, "y:g");
        int[] stands = {2 * 243, 2 * 27, 2 * 3, 2};
        for (int i = 0; i < stands.length; i++) {
            for (int what = 0; what < 2; what++) {
                said.due("X, " + i + " layers off", layers.value(stands[i], what), 99999 - 2 * i);
                said.due("O, " + i + " layers off", layers.value(stands[i] + 1, what), 2 * i + 2 - 100000);
            }
        }
        HoldTwo corridor = said.game(CORRIDOR, "y:g");
        said.due("eight moves of X and seven of O", corridor.value(NONE, 1), 99985);
        said.due("of two held out O picks the one back", corridor.value(NONE, 0), 0);
        said.due("O's turn", corridor.value(3, 1), -99984);
        HoldTwo empty = said.game("..;ab;/;p", "y:1");
        said.due("who passes first has won", empty.value(0, 0), 99999);
        said.due("be it O", empty.value(1, 1), 99999);
        said.due("the longest", said.game(DEEP, TAKES).all(6), 11);
        said.due("the longest plainly", said.game(DEEP, TAKES).all(7), 5);
    }

    private void pairIs(HoldTwo game, int first, int second, int pairs) {
        said.due("first", game.pair(0), first);
        said.due("second", game.pair(1), second);
        said.due("as good", game.pair(2), pairs);
    }

    private void pair() {
        said.that("PAIR: the best to hold out: two MOVES with the greatest lesser VALUE; of several the one with the lowest first MOVE (in order), then the second;");
        pairIs(star("bd", "y:g"), 1, 3, 1);
        pairIs(star("cd", "y:g"), 2, 3, 1);
        pairIs(star("bcd", "y:g"), 1, 2, 3);
        pairIs(star("b", "y:g"), 1, 2, 3);
        pairIs(star("d", "y:g"), 1, 2, 3);
        pairIs(star("b", "y:0-g"), 2, 3, 1);
        pairIs(star("c", "y:0-g"), 1, 3, 1);
        pairIs(star("bd", "y:0-g"), 1, 2, 3);
        pairIs(star("", "y:g"), 1, 2, 3);
        HoldTwo four = said.game("X....;ab,ac,ad,ae;b/;n", "y:0-g");
        pairIs(four, 2, 3, 3);
        HoldTwo layers = said.game(LAYERS, "y:g");
        pairIs(layers, 1, 2, 1);
        layers.set(2 * 27);
        pairIs(layers, 35, 36, 1);
        HoldTwo row = said.game(ROW, TAKES);
        pairIs(row, 1, NONE, 1);
        row.set(15);
        pairIs(row, 10, 12, 1);
        row.set(0);
        pairIs(row, NONE, NONE, NONE);
    }

    private void proof() {
        said.that("PROOF: VALUES (HELD) of MOVES one by one.");
        HoldTwo game = said.game(LAYERS, "y:g");
        game.set(2 * 27);
        int[] values = {99993, 99993, 99997, 99997, 99995};
        for (int i = 0; i < values.length; i++) {
            said.due("proof(" + i + ")", game.proof(i), values[i]);
        }
        HoldTwo corridor = said.game(CORRIDOR, "y:g");
        said.due("held, not plain", corridor.proof(0), 0);
    }

    private void hurts() {
        said.that("HURTS: STANDS with as many X and O as told, and whose turn as told, in which HELD is below PLAIN;");
        HoldTwo row = said.game(ROW, TAKES);
        said.due("O's turn", row.hurts(1, 1, 1, false, NONE), 2);
        said.due("the first", row.hurts(1, 1, 1, false, 0), 15);
        said.due("the second", row.hurts(1, 1, 1, false, 1), 31);
        said.due("X's turn, the men the other way", row.hurts(1, 1, 0, false, 0), 10);
        said.due("no man", row.hurts(0, 0, 0, false, NONE), 0);
        said.due("no empty place", row.hurts(3, 0, 0, false, NONE), 0);
        said.due("no empty place", row.hurts(0, 3, 1, false, NONE), 0);
        HoldTwo byOne = said.game("X.O.O.;ab,af,cd;b/d;n", "y:a=1?g;y:0-g");
        said.due("X's win, or O's loss behind it", byOne.value(362, 0), 99998);
        said.due("X's win", byOne.value(362, 1), 99999);
        said.due("five", byOne.hurts(1, 2, 0, false, NONE), 5);
        said.due("by one round", byOne.hurts(1, 2, 0, false, 1), 362);
        HoldTwo deep = said.game(DEEP, TAKES);
        int[][] due = {{1, 1, 0, 13, 6}, {1, 2, 0, 11, 15}, {2, 1, 0, 23, 1}, {3, 1, 0, 10, 0}, {1, 3, 1, 10, 0}, {4, 1, 1, 0, 2},
            {5, 0, 0, 0, 0}};
        for (int[] men : due) {
            said.due("hurts " + men[0] + " " + men[1] + " " + men[2], deep.hurts(men[0], men[1], men[2], false, NONE), men[3]);
        }
        said.that("HELPS: above.");
        for (int[] men : due) {
            said.due("helps " + men[0] + " " + men[1] + " " + men[2], deep.hurts(men[0], men[1], men[2], true, NONE), men[4]);
        }
        said.due("O's only move", byOne.value(435, 0), -99997);
        said.due("O's only move, plainly", byOne.value(435, 1), -99998);
        said.due("by one round", byOne.hurts(1, 2, 1, true, NONE), 1);
        said.due("that one", byOne.hurts(1, 2, 1, true, 0), 435);
        HoldTwo square = said.game("X...;ab,bc,cd,da;c/;p", "y:g");
        said.due("O's turn", square.hurts(1, 0, 1, true, NONE), 4);
        said.due("the third", square.hurts(1, 0, 1, true, 2), 19);
        said.due("X's turn", square.hurts(1, 0, 0, true, NONE), 0);
    }

    private void endingIs(HoldTwo game, int xs, int os, int turn, int number, int rounds) {
        said.due("ending of " + xs + ", " + os + ", " + turn, game.ending(xs, os, turn, 0), number);
        said.due("rounds of " + xs + ", " + os + ", " + turn, game.ending(xs, os, turn, 1), rounds);
    }

    private void ending() {
        said.that("ENDING of so many X and O and whose turn: the STAND with the longest win (HELD; of several the lowest NUMBER), how long.");
        endingIs(said.game(ROW, TAKES), 1, 1, 1, 15, 3);
        endingIs(said.game(ROW, TAKES), 1, 1, 0, 10, 3);
        endingIs(said.game(LAYERS, "y:g"), 1, 0, 0, 2, 7);
        endingIs(said.game(LAYERS, "y:g"), 1, 0, 1, NONE, NONE);
        endingIs(said.game(CORRIDOR, "y:g"), 1, 0, 0, NONE, NONE);
        endingIs(said.game(ROW, TAKES), 0, 0, 0, NONE, NONE);
        HoldTwo deep = said.game(DEEP, TAKES);
        endingIs(deep, 1, 1, 0, 22, 11);
        endingIs(deep, 1, 3, 0, 426, 11);
        endingIs(deep, 1, 3, 1, 215, 11);
        endingIs(deep, 4, 1, 0, 244, 1);
        endingIs(deep, 5, 0, 0, NONE, NONE);
    }

    private void puzzlesAre(HoldTwo game, int[] men, int count, int hardest, int rounds) {
        String name = men[0] + ", " + men[1] + ", " + men[2];
        said.due("puzzles of " + name, game.puzzles(men[0], men[1], men[2], 0), count);
        said.due("hardest of " + name, game.puzzles(men[0], men[1], men[2], 1), hardest);
        said.due("rounds of " + name, game.puzzles(men[0], men[1], men[2], 2), rounds);
    }

    private void puzzles() {
        said.that("PUZZLES among these: STANDS of which just two MOVES have VALUES above 0 (HELD); the HARDEST: with the most ROUNDS.");
        int[] lone = {1, 0, 0};
        puzzlesAre(star("b", "y:g"), lone, 0, NONE, NONE);
        puzzlesAre(star("bd", "y:g"), lone, 1, 2, 1);
        puzzlesAre(star("bcd", "y:g"), lone, 0, NONE, NONE);
        puzzlesAre(said.game("X..;ab,ac;bc/;n", "y:g"), lone, 1, 2, 1);
        puzzlesAre(said.game(ROW, TAKES), new int[] {1, 1, 1}, 2, 15, 3);
        puzzlesAre(said.game(ROW, TAKES), new int[] {1, 1, 0}, 2, 10, 3);
        HoldTwo deep = said.game(DEEP, TAKES);
        puzzlesAre(deep, new int[] {1, 3, 1}, 5, 287, 11);
        puzzlesAre(deep, new int[] {2, 1, 0}, 13, 172, 11);
        puzzlesAre(deep, new int[] {1, 2, 1}, 13, 339, 11);
        puzzlesAre(deep, new int[] {1, 3, 0}, 0, NONE, NONE);
        puzzlesAre(deep, new int[] {4, 1, 0}, 3, 248, 1);
    }

    private void roundIs(HoldTwo game, int moves, int within) {
        said.due("moves", game.round(0), moves);
        said.due("in the round", game.round(1), within);
    }

    private void round() {
        said.that("ROUND of a STAND that is 0 (HELD): by PAIR and the pick of the lesser VALUE (of like ones the first) from it, till a STAND is there a second time: how many MOVES that took, how many of these are in the round;");
        HoldTwo game = said.game("X..;ab,bc;/;p");
        roundIs(game, 4, 4);
        game.set(18);
        roundIs(game, 5, 4);
        HoldTwo pass = said.game("..;ab;/;p");
        roundIs(pass, 2, 2);
        HoldTwo goal = said.game("X..;ab,bc;c/;p", "y:g");
        goal.set(18);
        said.due("to stay wins, to go is 0", goal.value(NONE, 0), 0);
        roundIs(goal, 5, 4);
        // d to a loses, so that d to b and a pass are held out; from b on it goes to c and back
        roundIs(said.game("...X;da,db,bc;a/;p", "y:0-g"), 5, 4);
        HoldTwo won = said.game(LAYERS, "y:g");
        roundIs(won, NONE, NONE);
        won.set(3);
        roundIs(won, NONE, NONE);
        said.that("none, if a MOVE of these ends it, or the STAND has no MOVES");
        HoldTwo drawn = said.game("X.O;ab,bc;/;n");
        said.due("it is 0", drawn.value(NONE, 0), 0);
        roundIs(drawn, NONE, NONE);
        drawn.set(0);
        said.due("it is 0", drawn.value(NONE, 0), 0);
        roundIs(drawn, NONE, NONE);
        HoldTwo later = said.game("X..O;ab,bc,cd;/;n");
        said.due("it is 0", later.value(NONE, 0), 0);
        roundIs(later, NONE, NONE);
    }

    private void overByTheLaw() {
        said.that("(whether it is OVER by the LAW itself is not asked; so in VALUES, PAIR, PROOF).");
        HoldTwo game = said.game("X..;ab,bc;c/;p", "y:g");
        game.set(6);
        said.due("X goes to its goal", game.hold(12, 99, 0), 1);
        said.due("it is over", game.over(), 1);
        roundIs(game, 6, 4);
        said.due("value", game.value(NONE, 0), 0);
        said.due("value, plainly", game.value(NONE, 1), -99998);
        pairIs(game, 99, NONE, 1);
        said.due("proof", game.proof(0), 0);
    }

    private void threats() {
        said.that("THREATS: MOVES by which one HAS WON by the LAW at once;");
        said.due("none of three", star("", "y:g").threats(0), 0);
        said.due("one of three", star("c", "y:g").threats(0), 1);
        said.due("three of three", star("bcd", "y:g").threats(0), 3);
        said.due("by which one has lost", star("bcd", "y:0-g").threats(0), 0);
        said.due("without a law", said.game("X.O;ab,bc").threats(0), 0);
        said.due("as the other has no move, not by the law", said.game("X.O;ab,bc", "y:0").threats(0), 0);
        said.due("in two rounds, not at once", said.game(LAYERS, "y:g").threats(0), 0);
        said.due("no moves", said.game("OX;ab", "y:1").threats(0), 0);
        HoldTwo byO = said.game("O..;ab,ac;b/c;p", "y:g");
        byO.set(byO.stand() + 1);
        said.due("O's", byO.threats(0), 1);
    }

    private void bites(String text, String law, int want) {
        said.due("bites in " + text + " by " + law, said.game(text, law).threats(1), want);
    }

    private void bites() {
        said.that("BITES: pairs of MOVES behind both of which, were it one's turn again, one would have two THREATS or more");
        bites("X....;ab,ac,bd,be,cd,ce;de/;p", "y:g", 1);
        bites("X....;ab,ac,bd,cd,ce;de/;p", "y:g", 0);
        bites("X....;ab,ac,bd,be;de/;p", "y:g", 0);
        bites("X.....;ab,ac,bd,be,bf,cd,ce,cf;def/;p", "y:g", 1);
        bites("X.....;ab,ac,ad,be,bf,ce,cf,de,df;ef/;", "y:g", 3);
        bites("X....;ab,ac,bd,be,cd,ce;/;p", "y:g", 0);
        bites("X.;ab;/;p", "y:0", 0);
        bites("OX;ab", "y:1", 0);
        said.due("without a law", said.game("X....;ab,ac,bd,be,cd,ce;de/;p").threats(1), 0);
        HoldTwo pass = said.game("X...;ab,ac,ad;cd/;p", "y:g");
        said.due("two threats", pass.threats(0), 2);
        said.due("a pass alone keeps them", pass.threats(1), 0);
        said.that("(a MOVE by which one HAS WON or LOST by the LAW is none of these).");
        bites("X....;ab,ac,bd,be,cd,ce;bde/;p", "y:g", 0);
        bites("XO...;ab,ac,bd,be,cd,ce;de/;tp", "y:g", 1);
        bites("XO...;ab,ac,bd,be,cd,ce;de/;tp", "y:b=0?0-1;y:g", 0);
    }

    private void turningsAre(String net, int want) {
        said.due("turnings of " + net, said.game(net).turnings(NONE), want);
    }

    private void turnings() {
        said.that("TURNINGS: rows of PLACES (each once) by which LINKS come to LINKS, GOALS of X to GOALS of X, of O to those of O: how many;");
        turningsAre("X.;ab", 2);
        turningsAre("X.;ab;a/", 1);
        turningsAre("X.;ab;/b", 1);
        turningsAre("X.;ab;a/b", 1);
        turningsAre("X.;ab;ab/", 2);
        turningsAre("X..;ab", 2);
        turningsAre("X..;ab,bc", 2);
        turningsAre("X..;ab,bc;b/b", 2);
        turningsAre("X..;ab,bc;a/", 1);
        turningsAre("X..;ab,bc,ca", 6);
        turningsAre("....;ab,bc,cd,da", 8);
        turningsAre("....;ab,bc,cd,da;ac/", 4);
        turningsAre("....;ab,bc,cd,da;a/c", 2);
        turningsAre("......;ab,bc,cd,de,ef,ce", 1);
        turningsAre(".........;ab", 10080);
        turningsAre(".........;ab,ac,ad,ae,af,ag,ah,ai", 40320);
        turningsAre(".........;ab,bc,ca,de,ef,fd,gh,hi,ig", 1296);
        String whole = "ab,ac,ad,ae,af,ag,ah,ai,bc,bd,be,bf,bg,bh,bi,cd,ce,cf,cg,ch,ci,de,df,dg,dh,di,ef,eg,eh,ei,fg,fh,fi,gh,gi,hi";
        turningsAre("XXXXXOOOO;" + whole, 362880);
        turningsAre("XXXXXOOOO;" + whole + ";a/", 40320);
    }

    private void lowestIs(String text, int want) {
        HoldTwo game = said.game(text);
        said.due("lowest of " + text, game.turnings(game.stand()), want);
        said.due("with O's turn", game.turnings(game.stand() + 1), want + 1);
    }

    private void lowest() {
        said.that("LOWEST: the least NUMBER that any of these makes of a STAND.");
        lowestIs("..;ab", 0);
        lowestIs(".X;ab", 2);
        lowestIs("XO;ab", 2 * (2 + 3));
        lowestIs("XO;ab;a/", 2 * (1 + 6));
        lowestIs("OO;ab", 16);
        lowestIs("..X;ab,bc", 2);
        lowestIs("..X;ab,bc;a/", 18);
        lowestIs("..X;ab", 18);
        lowestIs("...X;ab,bc,cd,da;c/", 6);
        lowestIs("..X.;ab,bc,cd,da;c/", 18);
        lowestIs("OX.X;ab,bc,cd,da", 2 * (1 + 6 + 9));
        lowestIs("........O;ab,bc,ca,de,ef,fd,gh,hi,ig", 4);
        lowestIs("XX.....OO;ab,bc,ca,de,ef,fd,gh,hi,ig", 2 * (2 + 6 + 27 + 81));
        lowestIs("OOOOOOOOO;ab", 39364);
        String whole = "ab,ac,ad,ae,af,ag,ah,ai,bc,bd,be,bf,bg,bh,bi,cd,ce,cf,cg,ch,ci,de,df,dg,dh,di,ef,eg,eh,ei,fg,fh,fi,gh,gi,hi";
        lowestIs("X.O.X.O.X;" + whole, 2 * (2 + 6 + 9 + 27 + 81));
        lowestIs(".XXXXXXXX;" + whole, 6560);
        lowestIs("X.XXXXXXX;" + whole + ";a/", 2 * (1 + 3 + 9 + 27 + 81 + 243 + 729 + 2187));
        lowestIs("XO.XO.XO.;ab,ac,ad,ae,af,ag,ah,ai", 2 * (1 + 6 + 18 + 54 + 81 + 243));
    }
}
