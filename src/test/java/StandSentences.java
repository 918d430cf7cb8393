/** What the document says of stands, moves, who has won, and lines judged. */
final class StandSentences {
    private static final int NONE = Said.NONE;
    private static final String WHOLE = "ab,ac,ad,ae,af,ag,ah,ai,bc,bd,be,bf,bg,bh,bi,cd,ce,cf,cg,ch,ci,de,df,dg,dh,di,"
        + "ef,eg,eh,ei,fg,fh,fi,gh,gi,hi";
    private final Said said;

    StandSentences(Said said) {
        this.said = said;
    }

    void ask() {
        said.in("Terms");
        turnsAndMen();
        numbers();
        movesByLinks();
        orderOfMoves();
        passes();
        made();
        worthForTheMover();
        letters();
        noMove();
        heldOut();
        over();
        judged();
        judgedUpToThere();
    }

    private void turnsAndMen() {
        said.that("A STAND: what is on each PLACE, and whose turn it is (X 0, O 1; X at START).");
        HoldTwo game = said.game("XO.;ab,bc;/;p");
        said.due("a", game.at(0), 1);
        said.due("b", game.at(1), 2);
        said.due("c", game.at(2), 0);
        said.due("X at the start", game.stand() % 2, 0);
        said.due("X passes", game.hold(99, NONE, 0), 1);
        said.due("O", game.stand() % 2, 1);
        said.due("b to c is O's", game.moves(0), 12);
    }

    private void numbers() {
        said.that("Its NUMBER: (the sum of 1 for X, 2 for O, each times 3 to its PLACE) times 2, and whose turn.");
        said.due("empty", said.game("..;ab").stand(), 0);
        said.due("all are O", said.game("OO;ab").stand(), 16);
        said.due("nine O", said.game("OOOOOOOOO;ab").stand(), 39364);
        int power = 1;
        for (int place = 0; place < 9; place++) {
            String ahead = ".".repeat(place);
            String behind = ".".repeat(8 - place);
            said.due("X at " + place, said.game(ahead + "X" + behind + ";ab").stand(), 2 * power);
            said.due("O at " + place, said.game(ahead + "O" + behind + ";ab").stand(), 4 * power);
            power *= 3;
        }
        said.due("X and O", said.game("XO.X;ab").stand(), 2 * (1 + 6 + 27));
        HoldTwo game = said.game("X.O;ab");
        for (int number = 0; number < 54; number++) {
            said.due("set(" + number + ")", game.set(number), true);
            int sum = game.at(0) + 3 * game.at(1) + 9 * game.at(2);
            said.due("men of " + number, 2 * sum + number % 2, number);
            said.due("stand()", game.stand(), number);
        }
    }

    private void movesByLinks() {
        said.that("MOVES of whose turn it is: a man of its colour from its PLACE by a LINK to an empty one, or, with TAKING, to one of the other colour (which is off then);");
        said.due("own men and others are in the way", said.game("XXO;ab,bc,ca").moves(NONE), 0);
        said.due("no link", said.game("X..;bc").moves(NONE), 0);
        said.due("a link either way", said.game("X.;ba").moves(0), 1);
        said.due("O's men are not X's", said.game("O..;ab,ac").moves(NONE), 0);
        said.due("by one link alone", said.game("X..;ab,bc").moves(NONE), 1);
        HoldTwo game = said.game("XXO;ab,bc,ca;/;t");
        said.due("two take, no own man is taken", game.moves(NONE), 2);
        said.due("a takes c", game.moves(0), 2);
        said.due("b takes c", game.moves(1), 12);
        said.due("a takes", game.hold(2, 12, 0), 1);
        said.due("a is empty", game.at(0), 0);
        said.due("b stays", game.at(1), 1);
        said.due("O is off", game.at(2), 1);
        said.due("O has no man", game.moves(NONE), 0);
        game.set(2 * (2 + 3 + 9) + 1);
        said.due("O takes too", game.hold(1, 2, 1), 1);
        said.due("X is off c", game.stand(), 2 * (3 + 18));
    }

    private void orderOfMoves() {
        said.that("by the PLACE they go from, then to: as 10 times from and to;");
        HoldTwo game = said.game("X.X.;cd,da,cb,ab");
        int[] codes = {1, 3, 21, 23};
        said.due("how many", game.moves(NONE), codes.length);
        for (int i = 0; i < codes.length; i++) {
            said.due("move " + i, game.moves(i), codes[i]);
        }
        HoldTwo last = said.game(".......OX;hi;/;t");
        said.due("i takes h", last.moves(0), 87);
        last.set(last.stand() + 1);
        said.due("h takes i", last.moves(0), 78);
        HoldTwo most = said.game("XXXXOOOOO;" + WHOLE + ";/;tp");
        said.due("the most there can be", most.moves(NONE), 21);
        for (int i = 0; i < 20; i++) {
            said.due("move " + i, most.moves(i), 10 * (i / 5) + 4 + i % 5);
        }
        said.due("none behind the pass", most.moves(21), NONE);
    }

    private void passes() {
        said.that("with PASSING a PASS (99) behind all.");
        HoldTwo game = said.game("X..;ab,ac;/;p");
        said.due("how many", game.moves(NONE), 3);
        said.due("the last", game.moves(2), 99);
        said.due("X passes", game.hold(1, 99, 1), 1);
        said.due("the men stay, the turn is O's", game.stand(), 3);
        said.due("O has the pass alone", game.moves(NONE), 1);
        said.due("O passes", game.hold(99, NONE, 0), 2);
        said.due("X again", game.stand(), 2);
        said.due("nobody at all", said.game("..;ab;/;p").moves(0), 99);
        said.due("without passing", said.game("X..;ab,ac;/;tn").moves(2), NONE);
    }

    private void made() {
        said.that("A MOVE is made: the turn is the other's;");
        HoldTwo game = said.game("X..O;ab,bc,cd");
        said.due("X goes", game.hold(1, NONE, 0), 1);
        said.due("from a to b, and O's turn", game.stand(), 2 * (3 + 54) + 1);
        said.due("O goes", game.hold(32, NONE, 0), 2);
        said.due("from d to c, and X's turn", game.stand(), 2 * (3 + 18));
    }

    private void worthForTheMover() {
        said.that("WORTH of the LAW that judges (none at first: 0) for the one who moved: above 0 it HAS WON, below 0 it HAS LOST.");
        String[] laws = {"y:1", "y:9999*9999", "y:0", "y:0-1", "y:0-9999*9999"};
        int[] forX = {1, 1, 0, 2, 2};
        int[] forO = {2, 2, 0, 1, 1};
        for (int i = 0; i < laws.length; i++) {
            HoldTwo game = said.game("X..O;ab,bc,cd", laws[i]);
            said.due("X goes", game.hold(1, NONE, 0), 1);
            said.due("X by " + laws[i], game.over(), forX[i]);
            game.set(2 * (3 + 54) + 1);
            said.due("O goes", game.hold(32, NONE, 0), 1);
            said.due("O by " + laws[i], game.over(), forO[i]);
        }
        HoldTwo none = said.game("X..O;ab,bc,cd");
        said.due("a law", Check.text(none, 1, "y:1"), 0);
        said.due("X goes", none.hold(1, NONE, 0), 1);
        said.due("no law judges at first", none.over(), 0);
        said.due("law(0,0)", none.law(0, 0), true);
        said.due("what was made is not judged again", none.over(), 0);
        said.due("O goes", none.hold(32, NONE, 0), 2);
        said.due("now it judges", none.over(), 2);
    }

    /** Whether a letter has this worth behind a move of the game, which is held out beside another one. */
    private void letter(String text, int number, int move, int other, String letterIs) {
        HoldTwo game = said.game(text, "y:" + letterIs + "?1;y:0-1");
        int mover = number % 2;
        said.due("set(" + number + ")", game.set(number), true);
        said.due("hold(" + move + "," + other + ",0)", game.hold(move, other, 0), 1);
        said.due(letterIs + " behind " + move + " in " + number + " of " + text, game.over(), mover + 1);
    }

    private void letters() {
        said.that("Letters: a its men, b the other's, g its men on its GOALS, h the other's on theirs, m how many MOVES the other has then, e empty PLACES.");
        String text = "XX.O.;ac,bc,cd,ce,de;c/de;p";
        int stand = 2 * (1 + 3 + 54);
        for (String is : new String[] {"a=2", "b=1", "g=1", "h=1", "m=2", "e=2"}) {
            letter(text, stand, 2, 99, is);
        }
        for (String is : new String[] {"a=1", "b=2", "g=1", "h=0", "m=3", "e=2"}) {
            letter(text, stand + 1, 34, 99, is);
        }
        for (String is : new String[] {"a=0", "b=1", "g=0", "h=1", "m=2", "e=1"}) {
            letter(".O;ab;ab/b;p", 12, 99, NONE, is);
        }
        for (String is : new String[] {"a=1", "b=1", "g=1", "h=0", "m=1", "e=0"}) {
            letter("XO;ab;ab/a;p", 14, 99, NONE, is);
        }
        for (String is : new String[] {"a=1", "b=0", "g=0", "h=0", "m=0", "e=2"}) {
            letter("XO.;ab,bc;ac/b;t", 14, 1, NONE, is);
        }
        for (String is : new String[] {"a=0", "b=0", "g=0", "h=0", "m=1", "e=9"}) {
            letter(".........;ab;a/b;p", 1, 99, NONE, is);
        }
        for (String is : new String[] {"a=9", "b=0", "g=9", "h=0", "m=1", "e=0"}) {
            letter("XXXXXXXXX;ab;abcdefghi/;p", 19682, 99, NONE, is);
        }
    }

    private void noMove() {
        said.that("Who has no MOVE in its turn HAS LOST, with the RULE n it is DRAWN.");
        HoldTwo game = said.game("OX;ab");
        said.due("X", game.over(), 2);
        game.set(game.stand() + 1);
        said.due("O", game.over(), 1);
        game.set(0);
        said.due("X without men", game.over(), 2);
        game.set(1);
        said.due("O without men", game.over(), 1);
        HoldTwo drawn = said.game("OX;ab;/;n");
        said.due("X", drawn.over(), 3);
        drawn.set(drawn.stand() + 1);
        said.due("O", drawn.over(), 3);
        drawn.set(0);
        said.due("without men", drawn.over(), 3);
        said.due("there is a pass", said.game("OX;ab;/;p").over(), 0);
        HoldTwo behind = said.game("X.O;ab,bc");
        said.due("a to b", behind.hold(1, NONE, 0), 1);
        said.due("shuts O in", behind.over(), 1);
        HoldTwo both = said.game("X.O;ab,bc", "y:m=0?0-1");
        said.due("a to b", both.hold(1, NONE, 0), 1);
        said.due("X has lost by the law, ahead of O's turn", both.over(), 2);
        HoldTwo won = said.game("X.O;ab,bc;/;n", "y:m=0?1");
        said.due("a to b", won.hold(1, NONE, 0), 1);
        said.due("X has won by the law, ahead of O's turn", won.over(), 1);
    }

    private void heldOut() {
        said.that("In its turn one HOLDS OUT two unlike MOVES (if it has one alone, that); the other one PICKS.");
        HoldTwo game = said.game("X...;ab,ac,ad;/;p");
        said.due("two alike", game.hold(1, 1, 0), NONE);
        said.due("two alike", game.hold(99, 99, 1), NONE);
        said.due("one alone of four", game.hold(1, NONE, 0), NONE);
        said.due("two unlike, the first picked", game.hold(3, 1, 0), 1);
        said.due("a to d", game.stand(), 2 * 27 + 1);
        said.due("the only one twice", game.hold(99, 99, 0), NONE);
        said.due("the only one and another", game.hold(99, 1, 0), NONE);
        said.due("the only one", game.hold(99, NONE, 0), 2);
        game.set(2);
        said.due("two unlike, the second picked", game.hold(3, 1, 1), 1);
        said.due("a to b", game.stand(), 2 * 3 + 1);
    }

    private void over() {
        said.that("When somebody HAS WON or LOST the game is OVER; so it is, if whose turn it is has no MOVE.");
        HoldTwo won = said.game("X..O;ab,bc,cd;b/", "y:g");
        said.due("not yet", won.over(), 0);
        said.due("X goes", won.hold(1, NONE, 0), 1);
        said.due("X has won", won.over(), 1);
        said.due("O has a move", won.moves(NONE), 1);
        said.due("but it is over", won.hold(won.moves(0), NONE, 0), NONE);
        HoldTwo lost = said.game("X..O;ab,bc,cd;b/", "y:0-g");
        said.due("X goes", lost.hold(1, NONE, 0), 1);
        said.due("X has lost", lost.over(), 2);
        said.due("it is over", lost.hold(32, NONE, 0), NONE);
        HoldTwo shut = said.game("OX;ab");
        said.due("no move at the start", shut.over(), 2);
        said.due("it is over", shut.hold(10, NONE, 0), NONE);
        HoldTwo drawn = said.game("OX;ab;/;n");
        said.due("no move at the start", drawn.over(), 3);
        said.due("it is over", drawn.hold(10, NONE, 0), NONE);
    }

    private void judged(HoldTwo game, String line, int turn, int why, int number) {
        said.due("text(2) of " + line, Check.text(game, 2, line) > 0, true);
        said.due("first wrong turn of " + line, game.judge(0), turn);
        said.due("why of " + line, game.judge(1), why);
        said.due("number of " + line, game.judge(2), number);
    }

    private void judged() {
        said.that("A LINE JUDGED from START: the first TURN that is not one (NONE: none): why: 1 the game is OVER, 2 a MOVE that is none, 3 two alike, 4 one MOVE held out, though there are more (the least that is so).");
        HoldTwo game = said.game("X..O;ab,bc,cd;c/;p", "y:g");
        int start = 2 * (1 + 54);
        int behind = 2 * (3 + 54) + 1;
        judged(game, "ab,-1", NONE, 0, behind);
        judged(game, "ab", 0, 4, start);
        judged(game, "-", 0, 4, start);
        judged(game, "ab,ab1", 0, 3, start);
        judged(game, "-,-2", 0, 3, start);
        judged(game, "ba", 0, 2, start);
        judged(game, "ab,dc1", 0, 2, start);
        judged(game, "dc,ab2", 0, 2, start);
        judged(game, "hi,hi1", 0, 2, start);
        judged(game, "ab,-1;dc", 1, 4, behind);
        judged(game, "ab,-1;ab,ab1", 1, 2, behind);
        judged(game, "ab,-1;dc,-2;bc,-1;-,-1", 3, 1, 2 * (9 + 54) + 1);
        judged(game, "ab,-1;dc,-2;bc,-1;aa", 3, 1, 2 * (9 + 54) + 1);
        judged(game, "ab,-1;dc,-2;bc,-1;-;ab", 3, 1, 2 * (9 + 54) + 1);
        HoldTwo alone = said.game("X.O;ab,bc");
        judged(alone, "ab", NONE, 0, 43);
        judged(alone, "ab,ab1", 0, 3, 38);
        judged(alone, "ab,cb1", 0, 2, 38);
        judged(alone, "-", 0, 2, 38);
        judged(alone, "ab;cb", 1, 1, 43);
        judged(said.game("OX;ab"), "ba", 0, 1, 10);
        judged(said.game("OX;ab;/;n"), "ba", 0, 1, 10);
        HoldTwo lost = said.game("X..O;ab,bc,cd;b/", "y:0-g");
        judged(lost, "ab;dc", 1, 1, behind);
        lost.law(0, NONE);
        said.due("by the law of now", lost.judge(0), NONE);
        lost.set(0);
        said.due("from the start, wherever the stand is", lost.judge(2), 2 * (3 + 18));
        said.due("which stays there", lost.stand(), 0);
        HoldTwo round = said.game("X.;ab;/;p");
        judged(round, "ab,-1;-;ba,-1;-;".repeat(7) + "ab,-1;-", NONE, 0, 2 * 3);
        said.due("thirty turns", Check.text(round, 2, "-,ab1;-;".repeat(15).substring(0, 119)), 30);
        said.due("the thirtieth is no wrong one", round.judge(0), NONE);
        said.due("twenty-nine good ones and a wrong one", Check.text(round, 2, "-,ab1;-;".repeat(14) + "-,ab1;ab"), 30);
        said.due("the thirtieth is wrong", round.judge(0), 29);
        said.due("why", round.judge(1), 2);
    }

    private void judgedUpToThere() {
        said.that("Behind it: the STAND's NUMBER up to there.");
        HoldTwo game = said.game("X..O;ab,bc,cd;c/;p");
        judged(game, "aa", 0, 2, 2 * (1 + 54));
        judged(game, "ab,-1;aa;-", 1, 2, 2 * (3 + 54) + 1);
        judged(game, "ab,-2;aa", 1, 2, 2 * (1 + 54) + 1);
        judged(game, "ab,-1;dc,-1;aa", 2, 2, 2 * (3 + 18));
        judged(game, "ab,-1;dc,-1", NONE, 0, 2 * (3 + 18));
    }
}
