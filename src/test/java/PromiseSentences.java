/** What the document says of each call, promise by promise. */
final class PromiseSentences {
    private static final int NONE = Said.NONE;
    private static final int HIDDEN = Said.HIDDEN;
    private static final int HIGH = Said.HIGH;
    private static final int LOW = Said.LOW;
    private static final String ROW = "XO.;ab,bc;c/a;t";
    private static final String TAKES = "y:b=0?1";
    private static final String STAR = "X...;ab,ac,ad;b/;n";
    /** X, in the middle, goes to one of two places and wins by both; O never moves. */
    private static final String FORK = "X..;ab,ac;bc/;n";
    private final Said said;

    PromiseSentences(Said said) {
        this.said = said;
    }

    void ask() {
        constants();
        newObject();
        feed();
        end();
        fault();
        textOfGames();
        textOfLawsAndLines();
        textRefused();
        law();
        at();
        set();
        stand();
        moves();
        hold();
        holdRefused();
        over();
        judge();
        value();
        proof();
        pair();
        hurts();
        ending();
        puzzles();
        round();
        threats();
        turnings();
        match();
        series();
        all();
        image();
        back();
        count();
    }

    private void constants() {
        said.in("Terms");
        said.that("The constants: `NONE = -1`: None; refused.");
        said.due("NONE", HoldTwo.NONE, -1);
        said.that("`HIDDEN = -1000000`: Not told.");
        said.due("HIDDEN", HoldTwo.HIDDEN, -1000000);
    }

    private void newObject() {
        said.in("Promise 1");
        said.that("`HoldTwo()`: No GAME.");
        HoldTwo none = new HoldTwo();
        said.due("stand", none.stand(), NONE);
        said.due("places", none.count(0), 0);
        said.due("laws", none.count(1), 0);
        said.due("tape", none.count(2), 0);
        said.due("moves made", none.count(3), 0);
        said.due("line", none.count(4), NONE);
        said.due("law that judges", none.count(5), NONE);
        said.due("law for ways", none.count(6), NONE);
        HoldTwo other = said.game(ROW);
        said.due("another object's game is its own", none.stand(), NONE);
        said.due("and this one's", other.stand(), 14);
    }

    private void feed() {
        said.in("Promise 2");
        said.that("`int feed(int a, int b, int c, int d, int e)`: Twenty bytes more come to the TAPE (of each number the highest first; bytes of 0 are left out): how many it has.");
        HoldTwo game = new HoldTwo();
        said.due("twenty", game.feed(0x582E3B61, 0x623B2F3B, 0x74706E20, 0x20202020, 0x20202020), 20);
        said.due("they are X.;ab;/;tpn", game.text(0), 2);
        said.due("none", game.feed(0, 0, 0, 0, 0), 0);
        said.due("one, the highest", game.feed(0x58000000, 0, 0, 0, 0), 1);
        said.due("one, the next", game.feed(0, 0x002E0000, 0, 0, 0), 2);
        said.due("one, the next", game.feed(0, 0, 0x00003B00, 0, 0), 3);
        said.due("one, the lowest", game.feed(0, 0, 0, 0x00000061, 0), 4);
        said.due("one, of the last", game.feed(0, 0, 0, 0, 0x62), 5);
        said.due("they are X.;ab", game.fault(0), NONE);
        said.due("bytes of 255", game.feed(-1, 0, 0, 0, -1), 13);
        said.due("stand behind these", game.fault(0), 5);
        game.end(0);
        said.due("gaps", game.feed(0x0058002E, 0x3B000061, 0, 0x62, 0), 5);
        said.due("are left out", game.fault(0), NONE);
        said.that("NONE: more than 160.");
        HoldTwo full = new HoldTwo();
        for (int i = 1; i <= 8; i++) {
            said.due("feed " + i, full.feed(-1, -1, -1, -1, -1), 20 * i);
        }
        said.due("one more", full.feed(0, 0, 0, 0, 1), NONE);
        said.due("twenty more", full.feed(-1, -1, -1, -1, -1), NONE);
        said.due("none more", full.feed(0, 0, 0, 0, 0), 160);
        said.due("159", full.end(159), true);
        said.due("two more", full.feed(1, 0, 0, 0, 1), NONE);
        said.due("none of them is there", full.count(2), 159);
        said.due("one more", full.feed(0, 0, 1, 0, 0), 160);
        said.due("141", full.end(141), true);
        said.due("twenty more", full.feed(-1, -1, -1, -1, -1), NONE);
        said.due("nineteen more", full.feed(-1, -1, -1, -1, -256), 160);
    }

    private void end() {
        said.in("Promise 3");
        said.that("`boolean end(int n)`: The TAPE has its first n bytes alone.");
        HoldTwo game = new HoldTwo();
        Check.tape(game, "X.;ab;/");
        said.due("all", game.end(7), true);
        said.due("seven", game.count(2), 7);
        said.due("the first five", game.end(5), true);
        said.due("five", game.count(2), 5);
        said.due("the first of them are left", game.fault(0), NONE);
        said.due("four", game.end(4), true);
        said.due("fault", game.fault(0), 4);
        said.due("what was behind is gone", game.feed(0x61000000, 0, 0, 0, 0), 5);
        said.due("aa is there now", game.fault(0), 4);
        Check.tape(game, "X.   ");
        said.due("two", game.end(2), true);
        said.due("no blank is left behind them", game.fault(0), 2);
        said.due("none", game.end(0), true);
        said.due("empty", game.count(2), 0);
        said.due("none of none", game.end(0), true);
        said.that("False: n.");
        Check.tape(game, "X.;ab");
        for (int n : new int[] {-1, 6, 7, 160, 161, LOW, HIGH}) {
            said.due("end(" + n + ")", game.end(n), false);
            said.due("as it was", game.count(2), 5);
        }
    }

    private void fault() {
        said.in("Promise 4");
        said.that("`int fault(int sort)`: The FAULT of the TAPE as a GAME (0), a LAW (1), a LINE (2).");
        String[] texts = {"X.;ab", "y:a", "ab", "ab;", "#"};
        int[][] faults = {{NONE, 0, 0}, {0, NONE, 0}, {0, 0, NONE}, {0, 0, 3}, {0, 0, 0}};
        for (int i = 0; i < texts.length; i++) {
            for (int sort = 0; sort < 3; sort++) {
                said.fault(sort, texts[i], faults[i][sort]);
            }
        }
        HoldTwo game = new HoldTwo();
        Check.tape(game, "X.;ab");
        said.due("the tape stays", game.fault(0), NONE);
        said.due("the tape stays", game.count(2), 5);
        said.due("no game is there", game.stand(), NONE);
        said.that("NONE: none.");
        said.good(0, "X.;ab");
        said.good(1, "y:1");
        said.good(2, "-");
        said.that("-2: no such sort.");
        for (int sort : new int[] {-1, -2, 3, 4, LOW, HIGH}) {
            said.due("fault(" + sort + ")", game.fault(sort), -2);
        }
    }

    private void textOfGames() {
        said.in("Promise 5");
        said.that("`int text(int sort)`: The TAPE (empty then) is the GAME (its START the STAND; what was of another one is gone but LAWS and which of them judge): how many PLACES;");
        HoldTwo game = new HoldTwo();
        said.due("two places", Check.text(game, 0, ".X;ab"), 2);
        said.due("the tape is empty", game.count(2), 0);
        said.due("the start", game.stand(), 6);
        for (int i = 0; i < 4; i++) {
            said.due("law", Check.text(game, 1, "y:" + i), i);
        }
        said.due("judges", game.law(0, 2), true);
        said.due("for ways", game.law(1, 3), true);
        said.due("line", Check.text(game, 2, "ba"), 1);
        said.due("made", game.hold(10, NONE, 0), 1);
        said.due("over", game.over(), 1);
        said.due("image", game.image(), 1);
        said.due("values", game.all(0) > 0, true);
        said.due("turnings", game.turnings(NONE), 2);
        said.due("nine places", Check.text(game, 0, "X.......O;ab,hi;a/"), 9);
        said.due("the tape is empty", game.count(2), 0);
        said.due("its start", game.stand(), 2 + 4 * 6561);
        said.due("not over", game.over(), 0);
        said.due("no move made", game.count(3), 0);
        said.due("no line", game.count(4), NONE);
        said.due("no line", game.judge(0), HIDDEN);
        said.due("no image", game.back(), NONE);
        said.due("its turnings", game.turnings(NONE), 240);
        said.due("its values", game.value(NONE, 0), 99999);
        said.due("laws stay", game.count(1), 4);
        said.due("the one that judges stays", game.count(5), 2);
        said.due("the one for ways stays", game.count(6), 3);
        said.due("it judges", game.hold(1, NONE, 0), 1);
        said.due("X has won by it", game.over(), 1);
        said.due("fewer places again", Check.text(game, 0, "X.;ab;/;n"), 2);
        said.due("its values", game.all(0) + game.all(1) + game.all(2), 18);
        said.due("the same game again", Check.text(game, 0, "X.;ab;/;n"), 2);
        said.due("not over", game.over(), 0);
        textBehindOthers();
    }

    /** Nothing is left of rules, goals and links of the games ahead, nor of those that were only asked for faults. */
    private void textBehindOthers() {
        HoldTwo game = said.game("XO.;ab,ac,bc;abc/abc;tpn", "y:g>0?1;y:h>0?0-1");
        for (int i = 0; i < 3; i++) {
            said.due("a game with all rules", Check.text(game, 0, "XO.;ab,ac,bc;abc/abc;tpn"), 3);
            said.due("its fault", Check.fault(game, 0, "OO.......;ab,ac,bc,cd;abcd/abcd;tpn"), NONE);
            said.due("refused", Check.text(game, 0, "OO.......;ab,ac,bc,cd;abcd/abcd;tpnt"), NONE);
            said.due("a game without rules", Check.text(game, 0, "X.O;ab,bc"), 3);
            said.due("its start", game.stand(), 38);
            said.due("its moves", game.moves(NONE), 1);
            said.due("its turnings", game.turnings(NONE), 2);
            said.due("nobody wins at once", game.threats(0), 0);
            said.due("a to b", game.hold(1, NONE, 0), 1);
            said.due("O has no move", game.over(), 1);
        }
    }

    private void textOfLawsAndLines() {
        said.that("a LAW: its number; the LINE: how many TURNS.");
        HoldTwo behind = said.game("X.O;ab,bc;/;p");
        said.due("its fault", Check.fault(behind, 1, "y:1"), NONE);
        said.due("refused", Check.text(behind, 1, "y:1=1?1;y:1+"), NONE);
        said.due("a law behind others that are none", Check.text(behind, 1, "y:0-1"), 0);
        said.due("it judges", behind.law(0, 0), true);
        said.due("X passes", behind.hold(1, 99, 1), 1);
        said.due("X has lost by it", behind.over(), 2);
        HoldTwo game = said.game(ROW);
        for (int i = 0; i < 4; i++) {
            said.due("law " + i, Check.text(game, 1, "y:" + i), i);
            said.due("the tape is empty", game.count(2), 0);
        }
        said.due("no law judges by itself", game.count(5), NONE);
        said.due("nor is for ways", game.count(6), NONE);
        said.due("one turn", Check.text(game, 2, "ab"), 1);
        said.due("the tape is empty", game.count(2), 0);
        said.due("three turns", Check.text(game, 2, "ab;cd,ef1;-"), 3);
        said.due("thirty turns", Check.text(game, 2, "-;".repeat(29) + "-"), 30);
        said.due("the last one counts", game.count(4), 30);
    }

    private void textRefused() {
        said.that("NONE: a FAULT, no such sort, there are four LAWS, no GAME for a LINE.");
        HoldTwo game = new HoldTwo();
        said.due("an empty tape", game.text(0), NONE);
        said.due("an empty tape", game.text(1), NONE);
        said.due("an empty tape", game.text(2), NONE);
        said.due("a game with a fault", Check.text(game, 0, "X.;aa"), NONE);
        said.due("no game is there", game.stand(), NONE);
        said.due("a law with a fault", Check.text(game, 1, "y:1+"), NONE);
        said.due("no law is there", game.count(1), 0);
        said.due("a line without a game", Check.text(game, 2, "ab"), NONE);
        said.due("the tape stays", game.count(2), 2);
        Check.tape(game, "X.;ab");
        for (int sort : new int[] {-1, 3, LOW, HIGH}) {
            said.due("text(" + sort + ")", game.text(sort), NONE);
        }
        said.due("the tape stays", game.count(2), 5);
        said.due("a game", game.text(0), 2);
        for (int i = 0; i < 4; i++) {
            said.due("law " + i, Check.text(game, 1, "y:" + i), i);
        }
        said.due("a fifth one", Check.text(game, 1, "y:4"), NONE);
        said.due("the tape stays", game.count(2), 3);
        said.due("laws", game.count(1), 4);
        said.due("a line", Check.text(game, 2, "ab"), 1);
        said.due("a line with a fault", Check.text(game, 2, "ab;"), NONE);
        said.due("the line stays", game.count(4), 1);
        for (String text : new String[] {"ab;-", "y:1", "XO;ab"}) {
            Check.tape(game, text);
            for (int sort : new int[] {-1, 3, LOW, HIGH}) {
                said.due("text(" + sort + ") of " + text, game.text(sort), NONE);
            }
            said.due("the tape stays", game.count(2), text.length());
        }
        said.due("the line stays", game.count(4), 1);
    }

    private void law() {
        said.in("Promise 6");
        said.that("`boolean law(int what, int law)`: The LAW that judges (what 0), that for WAYS (1): NONE: none.");
        HoldTwo game = said.game(STAR);
        Check.text(game, 1, "y:g");
        Check.text(game, 1, "y:0-g");
        said.due("the first judges", game.law(0, 0), true);
        said.due("judging", game.count(5), 0);
        said.due("for ways", game.count(6), NONE);
        said.due("value", game.value(NONE, 1), 99999);
        said.due("the other one judges", game.law(0, 1), true);
        said.due("judging", game.count(5), 1);
        said.due("value by it", game.value(NONE, 1), 0);
        said.due("threats by it", game.threats(0), 0);
        said.due("that for ways", game.law(1, 0), true);
        said.due("judging stays", game.count(5), 1);
        said.due("for ways", game.count(6), 0);
        said.due("a match", game.match(1, 1, 0, 1), 0);
        said.due("none judges", game.law(0, NONE), true);
        said.due("judging", game.count(5), NONE);
        said.due("for ways stays", game.count(6), 0);
        said.due("value without a law", game.value(NONE, 1), 0);
        said.due("none for ways", game.law(1, NONE), true);
        said.due("for ways", game.count(6), NONE);
        said.due("without a game and laws", new HoldTwo().law(0, NONE), true);
        said.that("False: no such ones.");
        HoldTwo none = new HoldTwo();
        said.due("no law yet", none.law(0, 0), false);
        said.due("no law yet", none.law(1, 0), false);
        game.law(0, 1);
        game.law(1, 0);
        int[][] wrong = {{0, 2}, {1, 2}, {0, 4}, {0, -2}, {1, -2}, {2, 0}, {-1, 0}, {2, NONE}, {LOW, 0}, {HIGH, 0}, {0, LOW}, {1, HIGH}};
        for (int[] pair : wrong) {
            said.due("law(" + pair[0] + "," + pair[1] + ")", game.law(pair[0], pair[1]), false);
            said.due("judging stays", game.count(5), 1);
            said.due("for ways stays", game.count(6), 0);
        }
        Check.text(game, 1, "y:2");
        Check.text(game, 1, "y:3");
        said.due("the fourth", game.law(0, 3), true);
        said.due("a fifth", game.law(0, 4), false);
    }

    private void at() {
        said.in("Promise 7");
        said.that("`int at(int place) throws NoSuchElementException`: What is on a PLACE: 0 nothing, 1 X, 2 O.");
        HoldTwo game = said.game("OX......O;ab");
        said.due("a", game.at(0), 2);
        said.due("b", game.at(1), 1);
        said.due("c", game.at(2), 0);
        said.due("i", game.at(8), 2);
        game.set(39365);
        for (int place = 0; place < 9; place++) {
            said.due("at(" + place + ")", game.at(place), 2);
        }
        said.that("NoSuchElementException: no such PLACE.");
        for (int place : new int[] {-1, 9, 10, LOW, HIGH}) {
            said.noPlace(game, place);
        }
        HoldTwo two = said.game("X.;ab");
        said.due("b", two.at(1), 0);
        said.noPlace(two, 2);
        said.noPlace(two, 8);
        said.noPlace(new HoldTwo(), 0);
    }

    private void set() {
        said.in("Promise 8");
        said.that("`boolean set(int number)`: The STAND is that of a NUMBER (not OVER by a LAW; no MOVES made).");
        HoldTwo game = said.game("X..O;ab,bc,cd;b/", "y:g");
        said.due("X wins", game.hold(1, NONE, 0), 1);
        said.due("over", game.over(), 1);
        said.due("set to where it is", game.set(115), true);
        said.due("not over", game.over(), 0);
        said.due("no move made", game.count(3), 0);
        said.due("O goes on", game.hold(32, NONE, 0), 1);
        said.due("the lowest", game.set(0), true);
        said.due("the lowest", game.stand(), 0);
        said.due("over as X has no move", game.over(), 2);
        said.due("the highest", game.set(161), true);
        said.due("the highest", game.stand(), 161);
        said.that("False: no such one, no GAME.");
        for (int number : new int[] {162, -1, -2, 39365, LOW, HIGH}) {
            said.due("set(" + number + ")", game.set(number), false);
            said.due("as it was", game.stand(), 161);
        }
        said.due("no game", new HoldTwo().set(0), false);
        HoldTwo two = said.game("X.;ab");
        said.due("the highest of two places", two.set(17), true);
        said.due("above it", two.set(18), false);
        HoldTwo nine = said.game("X........;ab");
        said.due("the highest of nine places", nine.set(39365), true);
        said.due("above it", nine.set(39366), false);
    }

    private void stand() {
        said.in("Promise 9");
        said.that("`int stand()`: NUMBER of the STAND.");
        HoldTwo game = said.game(ROW);
        said.due("the start", game.stand(), 14);
        said.due("X takes", game.hold(1, NONE, 0), 1);
        said.due("behind it", game.stand(), 7);
        said.that("NONE: no GAME.");
        said.due("no game", new HoldTwo().stand(), NONE);
    }

    private void moves() {
        said.in("Promise 10");
        said.that("`int moves(int i)`: MOVES: how many (i NONE), the i-th.");
        HoldTwo game = said.game("X...;ab,ac,ad;/;p");
        said.due("how many", game.moves(NONE), 4);
        int[] codes = {1, 2, 3, 99};
        for (int i = 0; i < 4; i++) {
            said.due("moves(" + i + ")", game.moves(i), codes[i]);
        }
        HoldTwo shut = said.game("OX;ab");
        said.due("none of them", shut.moves(NONE), 0);
        said.that("NONE: no such one, no GAME.");
        for (int i : new int[] {4, 5, -2, 99, LOW, HIGH}) {
            said.due("moves(" + i + ")", game.moves(i), NONE);
        }
        said.due("none at all", shut.moves(0), NONE);
        said.due("no game", new HoldTwo().moves(NONE), NONE);
        said.due("no game", new HoldTwo().moves(0), NONE);
    }

    private void hold() {
        said.in("Promise 11");
        said.that("`int hold(int one, int other, int pick)`: Two MOVES (as moves() tells them) are held out (the other NONE: one alone), and one of them is picked (0, 1): how many MOVES were made.");
        HoldTwo game = said.game("X..;ab,bc,ca;/;p");
        said.due("the first of two", game.hold(1, 2, 0), 1);
        said.due("a to b", game.stand(), 7);
        said.due("one alone", game.hold(99, NONE, 0), 2);
        said.due("the men stay", game.stand(), 6);
        said.due("the second of two", game.hold(10, 99, 1), 3);
        said.due("a pass", game.stand(), 7);
        said.due("one alone", game.hold(99, NONE, 0), 4);
        said.due("the other way round", game.hold(12, 10, 1), 5);
        said.due("b to a", game.stand(), 3);
        for (int made = 6; made < 60; made += 2) {
            said.due("pass", game.hold(99, NONE, 0), made);
            said.due("pass", game.hold(99, 1, 0), made + 1);
        }
    }

    private void holdRefused() {
        said.that("NONE: not to be held out so, OVER, no such pick.");
        HoldTwo game = said.game("X..;ab,bc,ca;/;p");
        int[][] wrong = {{1, 1, 0}, {99, 99, 1}, {1, NONE, 0}, {99, NONE, 0}, {NONE, 1, 0}, {NONE, 1, 1}, {NONE, NONE, 0}, {1, 10, 0},
            {10, 1, 1}, {1, 0, 0}, {1, 3, 0}, {1, -2, 0}, {LOW, HIGH, 0}, {1, 2, 2}, {1, 2, -1}, {1, 2, LOW}, {1, 2, HIGH}, {1, 98, 0}};
        for (int[] held : wrong) {
            said.due("hold(" + held[0] + "," + held[1] + "," + held[2] + ")", game.hold(held[0], held[1], held[2]), NONE);
            said.due("the stand stays", game.stand(), 2);
            said.due("no move made", game.count(3), 0);
        }
        HoldTwo alone = said.game("X..O;ab,bc,cd;b/", "y:g");
        said.due("no such pick of one alone", alone.hold(1, NONE, 1), NONE);
        said.due("one alone, twice", alone.hold(1, 1, 0), NONE);
        said.due("one alone and none", alone.hold(1, 32, 0), NONE);
        said.due("one alone, as the other", alone.hold(NONE, 1, 1), NONE);
        said.due("one alone", alone.hold(1, NONE, 0), 1);
        said.due("over by the law", alone.hold(32, NONE, 0), NONE);
        said.due("as it was", alone.count(3), 1);
        HoldTwo shut = said.game("OX;ab;/;n");
        said.due("over as there is no move", shut.hold(NONE, NONE, 0), NONE);
        said.due("over as there is no move", shut.hold(10, NONE, 0), NONE);
        said.due("no game", new HoldTwo().hold(1, NONE, 0), NONE);
        said.due("no game", new HoldTwo().hold(1, 2, 1), NONE);
    }

    private void over() {
        said.in("Promise 12");
        said.that("`int over()`: Whether it is OVER: 0 no, 1 X HAS WON, 2 O HAS WON, 3 DRAWN.");
        HoldTwo game = said.game("XO;ab");
        said.due("X has no move", game.over(), 2);
        game.set(game.stand() + 1);
        said.due("O has no move", game.over(), 1);
        said.due("drawn", said.game("XO;ab;/;n").over(), 3);
        HoldTwo goes = said.game("X..O;ab,bc,cd", "y:e=2?1");
        said.due("no", goes.over(), 0);
        said.due("X wins", goes.hold(1, NONE, 0), 1);
        said.due("X has won", goes.over(), 1);
        goes.set(115);
        said.due("O wins", goes.hold(32, NONE, 0), 1);
        said.due("O has won", goes.over(), 2);
        said.that("NONE: no GAME.");
        said.due("no game", new HoldTwo().over(), NONE);
    }

    private void judge() {
        said.in("Promise 13");
        said.that("`int judge(int what)`: The LINE JUDGED: the first wrong TURN (0), why (1; 0: nothing), NUMBER up to there (2).");
        HoldTwo game = said.game("X..O;ab,bc,cd");
        said.due("a line", Check.text(game, 2, "ab;dc;bc"), 3);
        said.due("the first wrong turn", game.judge(0), 2);
        said.due("why", game.judge(1), 2);
        said.due("up to there", game.judge(2), 2 * (3 + 18));
        said.due("a line", Check.text(game, 2, "ab;dc"), 2);
        said.due("none is wrong", game.judge(0), NONE);
        said.due("nothing", game.judge(1), 0);
        said.due("up to its end", game.judge(2), 2 * (3 + 18));
        said.that("HIDDEN: no LINE, no such what.");
        for (int what : new int[] {-1, 3, 4, LOW, HIGH}) {
            said.due("judge(" + what + ")", game.judge(what), HIDDEN);
        }
        HoldTwo none = said.game(ROW);
        for (int what = 0; what < 3; what++) {
            said.due("no line", none.judge(what), HIDDEN);
            said.due("no game", new HoldTwo().judge(what), HIDDEN);
        }
    }

    private void value() {
        said.in("Promise 14");
        said.that("`int value(int number, int what)`: HELD (what 0), PLAIN (1) of the STAND of a NUMBER (NONE: as it is).");
        HoldTwo game = said.game(ROW, TAKES);
        said.due("as it is", game.value(NONE, 0), 99999);
        said.due("held", game.value(15, 0), 99997);
        said.due("plain", game.value(15, 1), 99999);
        game.set(15);
        said.due("as it is, held", game.value(NONE, 0), 99997);
        said.due("as it is, plain", game.value(NONE, 1), 99999);
        said.due("another one", game.value(38, 1), -99998);
        said.due("the lowest", game.value(0, 0), -100000);
        said.due("the highest", game.value(53, 1), -100000);
        said.due("the stand stays", game.stand(), 15);
        said.that("HIDDEN: no such ones, no GAME.");
        int[][] wrong = {{54, 0}, {-2, 0}, {LOW, 0}, {HIGH, 1}, {0, 2}, {0, -1}, {NONE, 2}, {NONE, -1}, {NONE, HIGH}, {54, 2}};
        for (int[] pair : wrong) {
            said.due("value(" + pair[0] + "," + pair[1] + ")", game.value(pair[0], pair[1]), HIDDEN);
        }
        said.due("no game", new HoldTwo().value(NONE, 0), HIDDEN);
        said.due("no game", new HoldTwo().value(0, 1), HIDDEN);
    }

    private void proof() {
        said.in("Promise 15");
        said.that("`int proof(int i)`: VALUE of the i-th MOVE (HELD) of the STAND as it is.");
        HoldTwo game = said.game(ROW, TAKES);
        said.due("the only one", game.proof(0), 99999);
        game.set(15);
        said.due("the first", game.proof(0), 99999);
        said.due("the second", game.proof(1), 99997);
        said.that("HIDDEN: no such one, no GAME.");
        for (int i : new int[] {2, 3, -1, -2, LOW, HIGH}) {
            said.due("proof(" + i + ")", game.proof(i), HIDDEN);
        }
        game.set(0);
        said.due("no moves", game.proof(0), HIDDEN);
        said.due("no game", new HoldTwo().proof(0), HIDDEN);
        said.due("no game", new HoldTwo().proof(NONE), HIDDEN);
    }

    private void pair() {
        said.in("Promise 16");
        said.that("`int pair(int what)`: PAIR: the first (what 0), the second MOVE (1; NONE: one alone), how many pairs are as good (2).");
        HoldTwo game = said.game(STAR, "y:0-g");
        said.due("first", game.pair(0), 2);
        said.due("second", game.pair(1), 3);
        said.due("as good", game.pair(2), 1);
        game.set(6);
        said.due("one alone", game.pair(0), 10);
        said.due("no second", game.pair(1), NONE);
        said.due("that one", game.pair(2), 1);
        said.that("NONE: no MOVES, no such what, no GAME.");
        for (int number : new int[] {2, 6}) {
            game.set(number);
            for (int what : new int[] {3, -1, LOW, HIGH}) {
                said.due("pair(" + what + ")", game.pair(what), NONE);
            }
        }
        game.set(0);
        for (int what = 0; what < 3; what++) {
            said.due("no moves", game.pair(what), NONE);
            said.due("no game", new HoldTwo().pair(what), NONE);
        }
    }

    private static final int[][] NO_SUCH_MEN = {{-1, 1, 0}, {1, -1, 0}, {2, 2, 0}, {4, 0, 1}, {0, 4, 1}, {1, 1, 2}, {1, 1, -1},
        {HIGH, HIGH, 0}, {LOW, LOW, 0}, {HIGH, 1, 0}, {1, HIGH, 1}, {LOW, 2, 0}, {1, 1, LOW}, {1, 1, HIGH}, {-1, 4, 0}, {4, -1, 1}};

    private void hurts() {
        said.in("Promise 17");
        said.that("`int hurts(int xs, int os, int turn, boolean help, int i)`: HURTS (help false), HELPS: how many (i NONE), the NUMBER of the i-th.");
        HoldTwo game = said.game(ROW, TAKES);
        said.due("hurts", game.hurts(1, 1, 1, false, NONE), 2);
        said.due("first", game.hurts(1, 1, 1, false, 0), 15);
        said.due("second", game.hurts(1, 1, 1, false, 1), 31);
        said.due("helps", game.hurts(1, 1, 1, true, NONE), 0);
        HoldTwo helped = said.game("X...;ab,bc,cd,da;c/;p", "y:g");
        int[] numbers = {3, 7, 19, 55};
        said.due("helps", helped.hurts(1, 0, 1, true, NONE), 4);
        for (int i = 0; i < 4; i++) {
            said.due("helps " + i, helped.hurts(1, 0, 1, true, i), numbers[i]);
            said.due("hurts " + i, helped.hurts(1, 0, 0, false, i), numbers[i] - 1);
        }
        said.due("as many men as can be", game.hurts(0, 3, 0, false, NONE), 0);
        said.due("as many men as can be", game.hurts(3, 0, 1, true, NONE), 0);
        said.that("NONE: no such ones, no GAME.");
        for (int[] men : NO_SUCH_MEN) {
            said.due("hurts of no such men", game.hurts(men[0], men[1], men[2], false, NONE), NONE);
            said.due("helps of no such men", game.hurts(men[0], men[1], men[2], true, NONE), NONE);
        }
        for (int i : new int[] {2, 3, -2, LOW, HIGH}) {
            said.due("hurts " + i, game.hurts(1, 1, 1, false, i), NONE);
        }
        said.due("helps 0 of none", game.hurts(1, 1, 1, true, 0), NONE);
        said.due("no game", new HoldTwo().hurts(0, 0, 0, false, NONE), NONE);
    }

    private void ending() {
        said.in("Promise 18");
        said.that("`int ending(int xs, int os, int turn, int what)`: ENDING: the NUMBER (0), ROUNDS (1).");
        HoldTwo game = said.game(ROW, TAKES);
        said.due("number", game.ending(1, 1, 1, 0), 15);
        said.due("rounds", game.ending(1, 1, 1, 1), 3);
        said.that("NONE: none is won, no such ones, no GAME.");
        for (int what = 0; what < 2; what++) {
            said.due("none is won", game.ending(0, 0, 0, what), NONE);
            said.due("none is won", game.ending(3, 0, 0, what), NONE);
            said.due("none is won", game.ending(0, 3, 1, what), NONE);
            for (int[] men : NO_SUCH_MEN) {
                said.due("no such men", game.ending(men[0], men[1], men[2], what), NONE);
            }
            said.due("no game", new HoldTwo().ending(0, 0, 0, what), NONE);
        }
        for (int what : new int[] {-1, 2, LOW, HIGH}) {
            said.due("ending of what " + what, game.ending(1, 1, 1, what), NONE);
        }
    }

    private void puzzles() {
        said.in("Promise 19");
        said.that("`int puzzles(int xs, int os, int turn, int what)`: PUZZLES: how many (0), the HARDEST (1), its ROUNDS (2).");
        HoldTwo game = said.game(ROW, TAKES);
        said.due("how many", game.puzzles(1, 1, 1, 0), 2);
        said.due("hardest", game.puzzles(1, 1, 1, 1), 15);
        said.due("rounds", game.puzzles(1, 1, 1, 2), 3);
        said.due("none of them", game.puzzles(0, 0, 0, 0), 0);
        said.that("NONE: none (1, 2), no such ones, no GAME.");
        said.due("no hardest", game.puzzles(0, 0, 0, 1), NONE);
        said.due("no rounds", game.puzzles(0, 0, 0, 2), NONE);
        for (int what = 0; what < 3; what++) {
            for (int[] men : NO_SUCH_MEN) {
                said.due("no such men", game.puzzles(men[0], men[1], men[2], what), NONE);
            }
            said.due("no game", new HoldTwo().puzzles(0, 0, 0, what), NONE);
        }
        for (int what : new int[] {-1, 3, LOW, HIGH}) {
            said.due("puzzles of what " + what, game.puzzles(1, 1, 1, what), NONE);
        }
    }

    private void round() {
        said.in("Promise 20");
        said.that("`int round(int what)`: ROUND of the STAND as it is: MOVES (0), of these in the round (1).");
        HoldTwo game = said.game("X..;ab,bc;/;p");
        game.set(18);
        said.due("moves", game.round(0), 5);
        said.due("in the round", game.round(1), 4);
        said.due("the stand stays", game.stand(), 18);
        said.that("NONE: it is not 0, none, no such what, no GAME.");
        HoldTwo won = said.game(FORK, "y:g");
        HoldTwo lost = said.game(FORK, "y:0-g");
        HoldTwo ends = said.game("X.O;ab,bc;/;n");
        for (int what = 0; what < 2; what++) {
            said.due("it is won", won.round(what), NONE);
            said.due("it is lost", lost.round(what), NONE);
            said.due("it ends", ends.round(what), NONE);
            said.due("no game", new HoldTwo().round(what), NONE);
        }
        for (int what : new int[] {-1, 2, LOW, HIGH}) {
            said.due("round(" + what + ")", game.round(what), NONE);
        }
    }

    private void threats() {
        said.in("Promise 21");
        said.that("`int threats(int what)`: THREATS (what 0), BITES (1): how many.");
        HoldTwo game = said.game("X....;ab,ac,bd,be,cd,ce;de/;p", "y:g");
        said.due("threats", game.threats(0), 0);
        said.due("bites", game.threats(1), 1);
        game.set(6);
        said.due("threats", game.threats(0), 2);
        said.due("bites", game.threats(1), 0);
        said.that("NONE: no such what, no GAME.");
        for (int what : new int[] {-1, 2, LOW, HIGH}) {
            said.due("threats(" + what + ")", game.threats(what), NONE);
        }
        said.due("no game", new HoldTwo().threats(0), NONE);
        said.due("no game", new HoldTwo().threats(1), NONE);
    }

    private void turnings() {
        said.in("Promise 22");
        said.that("`int turnings(int number)`: TURNINGS (number NONE); LOWEST of a STAND's NUMBER.");
        HoldTwo game = said.game("...X;ab,bc,cd,da;c/");
        said.due("turnings", game.turnings(NONE), 2);
        said.due("d comes to b", game.turnings(54), 6);
        said.due("the lowest of all", game.turnings(0), 0);
        said.due("the highest of all", game.turnings(161), 161);
        said.due("the stand stays", game.stand(), 54);
        said.that("NONE: no such one, no GAME.");
        for (int number : new int[] {-2, 162, LOW, HIGH}) {
            said.due("turnings(" + number + ")", game.turnings(number), NONE);
        }
        said.due("no game", new HoldTwo().turnings(NONE), NONE);
        said.due("no game", new HoldTwo().turnings(0), NONE);
    }

    private static final int[][] NO_SUCH_MATCH = {{-1, 0, 1}, {4, 0, 1}, {0, -1, 1}, {0, 4, 1}, {0, 0, 0}, {0, 0, -1}, {0, 0, 201},
        {LOW, 0, 1}, {HIGH, 0, 1}, {0, LOW, 1}, {0, HIGH, 1}, {0, 0, LOW}, {0, 0, HIGH}};

    private void match() {
        said.in("Promise 23");
        said.that("`int match(int x, int o, long seed, int most)`: A MATCH.");
        HoldTwo game = said.game(FORK, "y:g");
        for (int x = 0; x <= 3; x++) {
            for (int o = 0; o <= 3; o++) {
                said.due("match(" + x + "," + o + ",0,1)", game.match(x, o, 0, 1), 1);
                said.due("match(" + x + "," + o + ",LOW,200)", game.match(x, o, Long.MIN_VALUE, 200), 1);
            }
        }
        said.due("the stand stays", game.stand(), 2);
        said.that("NONE: no such ones, no GAME.");
        for (int[] way : NO_SUCH_MATCH) {
            said.due("match(" + way[0] + "," + way[1] + ",0," + way[2] + ")", game.match(way[0], way[1], 0, way[2]), NONE);
        }
        said.due("no game", new HoldTwo().match(0, 0, 0, 1), NONE);
    }

    private void series() {
        said.in("Promise 24");
        said.that("`int series(int x, int o, int n, int most, int what)`: SERIES: X won (0), O won (1).");
        HoldTwo game = said.game(FORK, "y:g");
        HoldTwo lost = said.game(FORK, "y:0-g");
        for (int n : new int[] {1, 2, 19, 20}) {
            said.due("X won", game.series(3, 3, n, 1, 0), n);
            said.due("O won", game.series(3, 3, n, 200, 1), 0);
            said.due("X won", lost.series(0, 2, n, 1, 0), 0);
            said.due("O won", lost.series(1, 3, n, 200, 1), n);
        }
        said.that("NONE likewise.");
        for (int[] way : NO_SUCH_MATCH) {
            said.due("series of no such match", game.series(way[0], way[1], 1, way[2], 0), NONE);
        }
        for (int n : new int[] {0, -1, 21, LOW, HIGH}) {
            said.due("series of " + n, game.series(0, 0, n, 1, 0), NONE);
        }
        for (int what : new int[] {-1, 2, LOW, HIGH}) {
            said.due("series of what " + what, game.series(0, 0, 1, 1, what), NONE);
        }
        said.due("no game", new HoldTwo().series(0, 0, 1, 1, 0), NONE);
    }

    private void all() {
        said.in("Promise 25");
        said.that("`int all(int what)`: STANDS of a GAME that are won (0), lost (1), 0 (2) by HELD, likewise (3, 4, 5) by PLAIN; the most ROUNDS of a win (6, 7).");
        int[][] due = {{4, 14, 0, 4, 14, 0, 1, 1}, {0, 0, 18, 0, 0, 18, 0, 0}, {264, 222, 0, 280, 206, 0, 11, 5},
            {26, 27, 109, 43, 37, 82, 3, 3}};
        HoldTwo[] games = {said.game("X.;ab"), said.game("X.;ab;/;n"), said.game(".XX.X;de,bd,cb,ec,ad;dc/;t", TAKES),
            said.game("X...;ab,bc,cd,da;c/;p", "y:g")};
        for (int i = 0; i < games.length; i++) {
            for (int what = 0; what < 8; what++) {
                said.due("game " + i + ", all(" + what + ")", games[i].all(what), due[i][what]);
            }
        }
        HoldTwo nine = said.game(".........;ab");
        said.due("all of nine places", nine.all(0) + nine.all(1) + nine.all(2), 39366);
        said.that("NONE: no such what, no GAME.");
        for (int what : new int[] {-1, 8, LOW, HIGH}) {
            said.due("all(" + what + ")", games[0].all(what), NONE);
        }
        for (int what = 0; what < 8; what++) {
            said.due("no game", new HoldTwo().all(what), NONE);
        }
    }

    private void image() {
        said.in("Promise 26");
        said.that("`int image()`: An IMAGE (instead of the one ahead): MOVES made.");
        HoldTwo game = said.game("X..O;ab,bc,cd");
        said.due("none made", game.image(), 0);
        said.due("a to b", game.hold(1, NONE, 0), 1);
        said.due("one made", game.image(), 1);
        said.due("d to c", game.hold(32, NONE, 0), 2);
        said.due("instead of the one ahead", game.back(), 1);
        said.due("behind a to b", game.stand(), 115);
        said.that("NONE: no GAME.");
        HoldTwo none = new HoldTwo();
        said.due("no game", none.image(), NONE);
        said.due("no image of it", none.back(), NONE);
        Check.text(none, 0, ROW);
        said.due("nor of the game behind it", none.back(), NONE);
    }

    private void back() {
        said.in("Promise 27");
        said.that("`int back()`: BACK: MOVES made.");
        HoldTwo game = said.game("X..O;ab,bc,cd");
        game.hold(1, NONE, 0);
        game.hold(32, NONE, 0);
        said.due("image", game.image(), 2);
        game.set(0);
        said.due("two made", game.back(), 2);
        said.due("two made", game.count(3), 2);
        said.due("once more", game.back(), 2);
        said.that("NONE: no IMAGE of this GAME.");
        said.due("no game", new HoldTwo().back(), NONE);
        HoldTwo fresh = said.game(ROW);
        said.due("no image", fresh.back(), NONE);
        said.due("the stand stays", fresh.stand(), 14);
        said.due("image", fresh.image(), 0);
        said.due("the same game anew", Check.text(fresh, 0, ROW), 3);
        said.due("no image of it", fresh.back(), NONE);
    }

    private void count() {
        said.in("Promise 28");
        said.that("`int count(int what)`: 0 PLACES, 1 LAWS, 2 bytes of the TAPE, 3 MOVES made, 4 TURNS of the LINE (NONE without), 5 the LAW that judges, 6 for WAYS (NONE).");
        HoldTwo game = said.game("X..O;ab,bc,cd", "y:0", "y:0");
        Check.text(game, 1, "y:0");
        said.due("no line", game.count(4), NONE);
        Check.text(game, 2, "ab;-");
        Check.tape(game, "12345");
        game.hold(1, NONE, 0);
        int[] counts = {4, 3, 5, 1, 2, 0, 1};
        for (int what = 0; what < 7; what++) {
            said.due("count(" + what + ")", game.count(what), counts[what]);
        }
        game.law(0, NONE);
        game.law(1, NONE);
        said.due("no law judges", game.count(5), NONE);
        said.due("none is for ways", game.count(6), NONE);
        said.that("HIDDEN for others.");
        for (int what : new int[] {-1, 7, 8, LOW, HIGH}) {
            said.due("count(" + what + ")", game.count(what), HIDDEN);
            said.due("no game", new HoldTwo().count(what), HIDDEN);
        }
    }
}
