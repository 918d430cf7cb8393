/** Each promise by answers that were worked out by hand: ordinary inputs, edges, wrong inputs. */
public final class PromisesTest {
    private static final int NONE = HoldTwo.NONE;
    private static final int HIDDEN = HoldTwo.HIDDEN;
    private static final int HIGH = Integer.MAX_VALUE;
    private static final int LOW = Integer.MIN_VALUE;
    /** On a row of three X takes O at once; O would take as well, or step back and take later. */
    private static final String ROW = "XO.;ab,bc;c/a;t";
    /** A man in the middle of three others; who cannot move has not lost. */
    private static final String STAR = "X...;ab,ac,ad;b/;n";
    private static final Check CHECK = new Check();

    private PromisesTest() {
    }

    public static void main(String[] args) {
        newObject();
        feedAndEnd();
        faultOfGames();
        faultOfLaws();
        faultOfLines();
        texts();
        laws();
        worths();
        stands();
        moves();
        holdAndOver();
        wonAndLost();
        judge();
        values();
        pairs();
        byMen();
        helps();
        rounds();
        threats();
        turnings();
        matches();
        waysByLaw();
        waysByValue();
        series();
        all();
        images();
        counts();
        CHECK.finish();
    }

    private static void due(String call, long got, long want) {
        CHECK.due(call, got, want);
    }

    private static void due(String call, boolean got, boolean want) {
        CHECK.due(call, got, want);
    }

    private static HoldTwo game(String text, String... laws) {
        HoldTwo game = new HoldTwo();
        due(text, Check.text(game, 0, text) > 0, true);
        for (int i = 0; i < laws.length; i++) {
            due(laws[i], Check.text(game, 1, laws[i]), i);
            due("law of " + laws[i], game.law(i, i), true);
        }
        return game;
    }

    private static void newObject() {
        HoldTwo game = new HoldTwo();
        due("stand", game.stand(), NONE);
        due("moves", game.moves(NONE), NONE);
        due("hold", game.hold(1, NONE, 0), NONE);
        due("over", game.over(), NONE);
        due("judge", game.judge(0), HIDDEN);
        due("set", game.set(0), false);
        CHECK.noPlace(game, 0);
        due("value", game.value(NONE, 0), HIDDEN);
        due("value 0", game.value(0, 1), HIDDEN);
        due("proof", game.proof(0), HIDDEN);
        due("pair", game.pair(0), NONE);
        due("hurts", game.hurts(0, 0, 0, false, NONE), NONE);
        due("ending", game.ending(0, 0, 0, 0), NONE);
        due("puzzles", game.puzzles(0, 0, 0, 0), NONE);
        due("round", game.round(0), NONE);
        due("threats", game.threats(0), NONE);
        due("turnings", game.turnings(NONE), NONE);
        due("turnings 0", game.turnings(0), NONE);
        due("match", game.match(0, 0, 0, 1), NONE);
        due("series", game.series(0, 0, 1, 1, 0), NONE);
        due("all", game.all(0), NONE);
        due("image", game.image(), NONE);
        due("back", game.back(), NONE);
        int[] counts = {0, 0, 0, 0, NONE, NONE, NONE, HIDDEN};
        for (int i = 0; i < counts.length; i++) {
            due("count " + i, game.count(i), counts[i]);
        }
    }

    private static void feedAndEnd() {
        HoldTwo game = new HoldTwo();
        due("feed of nothing", game.feed(0, 0, 0, 0, 0), 0);
        due("feed with gaps", game.feed(0x58002E00, 0x3B, 0x61006200, 0, 0), 5);
        due("it is X.;ab", game.fault(0), NONE);
        due("end behind", game.end(6), false);
        due("end below", game.end(-1), false);
        due("end far below", game.end(LOW), false);
        due("count", game.count(2), 5);
        due("end at its end", game.end(5), true);
        due("end 4", game.end(4), true);
        due("fault", game.fault(0), 4);
        due("end 0", game.end(0), true);
        for (int i = 1; i <= 8; i++) {
            due("feed " + i, game.feed(-1, -1, -1, -1, -1), 20 * i);
        }
        due("feed nothing more", game.feed(0, 0, 0, 0, 0), 160);
        due("feed too much", game.feed(0, 0, 0, 0, 1), NONE);
        due("unchanged", game.count(2), 160);
        due("fault", game.fault(0), 0);
        due("end 159", game.end(159), true);
        due("two too much", game.feed(0x01000000, 0, 0, 0, 1), NONE);
        due("the last byte", game.feed(0, 0, 0x00010000, 0, 0), 160);
    }

    private static void faultOf(int sort, String text, int want) {
        due("fault " + sort + " of " + text, Check.fault(new HoldTwo(), sort, text), want);
    }

    private static void faultOfGames() {
        due("no such sort", new HoldTwo().fault(-1), -2);
        due("no such sort", new HoldTwo().fault(3), -2);
        due("no such sort", new HoldTwo().fault(LOW), -2);
        String[] good = {"X.;ab", "XO.XO.XO.;ab,ai,ih", "X.;ba;/", "X.;ab;ab/ba", "X.;ab;/;", "X.;ab;/;npt", " X . ; a b ; a / ; t "};
        for (String text : good) {
            faultOf(0, text, NONE);
        }
        faultOf(0, "", 0);
        faultOf(0, "  ", 2);
        faultOf(0, ";", 0);
        faultOf(0, "X ;", 2);
        faultOf(0, "X.", 2);
        faultOf(0, "X.,", 2);
        faultOf(0, "x.;ab", 0);
        faultOf(0, "XO.XO.XO.X;ab", 9);
        faultOf(0, "X.;", 3);
        faultOf(0, "X.;;", 3);
        faultOf(0, "X.;a", 4);
        faultOf(0, "X.;ca", 3);
        faultOf(0, "X.;ac", 4);
        faultOf(0, "X.;aa", 4);
        faultOf(0, "X.;ab,", 6);
        faultOf(0, "X.;ab,ab", 7);
        faultOf(0, "X.;ab,b a", 8);
        faultOf(0, "X..;ab,bc,ca,cb", 14);
        faultOf(0, "X.;abb", 5);
        faultOf(0, "X.;ab;", 6);
        faultOf(0, "X.;ab;a", 7);
        faultOf(0, "X.;ab;c/", 6);
        faultOf(0, "X.;ab;aa/", 7);
        faultOf(0, "X.;ab;a/bb", 9);
        faultOf(0, "X.;ab;/;tpt", 10);
        faultOf(0, "X.;ab;/;tpnp", 11);
        faultOf(0, "X.;ab;/;;", 8);
        faultOf(0, "X.;ab;/;a", 8);
        faultOf(0, "X.;ab;;t", 6);
        faultOf(0, "X.;ab \t", 6);
    }

    private static void faultOfLaws() {
        String[] good = {"y:1", "y:0009", "y:a+b-g*h/m", "y:[e]", "y:a=b?1", "y:!a=b?1", "y:(a=b)?1", "y:a=1&b=2|!(m<3)?4;y:5",
            "y:[[[[[[a]]]]]]", "y:!!!!!!a=b?1", "y:((((((a=b))))))?1", "y:!(!(!(a=1)))?1", "y:(!([a]=1))&!(!([a]=1))?[1]",
            "y : 1 2 + [ 3 ] ; y : a > b ? 1", "y:a=[[[[[[b]]]]]]?[[[[[[a]]]]]]"};
        for (String text : good) {
            faultOf(1, text, NONE);
        }
        faultOf(1, "", 0);
        faultOf(1, "x", 0);
        faultOf(1, "y", 1);
        faultOf(1, "y1", 1);
        faultOf(1, "y:", 2);
        faultOf(1, "y:-1", 2);
        faultOf(1, "y:c", 2);
        faultOf(1, "y:ab", 3);
        faultOf(1, "y:1a", 3);
        faultOf(1, "y:12345", 6);
        faultOf(1, "y:1 2345", 7);
        faultOf(1, "y:1+", 4);
        faultOf(1, "y:1++", 4);
        faultOf(1, "y:1;", 4);
        faultOf(1, "y:1;;", 4);
        faultOf(1, "y:1;z", 4);
        faultOf(1, "y:a?1", 3);
        faultOf(1, "y:a=b", 5);
        faultOf(1, "y:a=b;", 5);
        faultOf(1, "y:a=b=1", 5);
        faultOf(1, "y:a=b?", 6);
        faultOf(1, "y:a=b?c", 6);
        faultOf(1, "y:a=b?1=1", 7);
        faultOf(1, "y:a=b?(a=1)", 6);
        faultOf(1, "y:a=b?1?1", 7);
        faultOf(1, "y:(a)", 4);
        faultOf(1, "y:(a=b", 6);
        faultOf(1, "y:(a=b)", 7);
        faultOf(1, "y:(a=b)=1", 7);
        faultOf(1, "y:a=b&(1", 8);
        faultOf(1, "y:!a", 4);
        faultOf(1, "y:!a;", 4);
        faultOf(1, "y:[a", 4);
        faultOf(1, "y:[a=b]", 4);
        faultOf(1, "y:[(a=b)]", 3);
        faultOf(1, "y:a)", 3);
        faultOf(1, "y:a=1&", 6);
        faultOf(1, "y:a=1&&", 6);
        faultOf(1, "y:[[[[[[[a]]]]]]]", 8);
        faultOf(1, "y:!!!!!!!a=b?1", 8);
        faultOf(1, "y:(((((((a=b)))))))?1", 8);
        faultOf(1, "y:a=b?[[[[[[[a]]]]]]]", 12);
        faultOf(1, "y:!(!(!([a]=1)))?1", 8);
        faultOf(1, "y:a=1&!(!(!([a]=1)))?1", 12);
    }

    private static void faultOfLines() {
        String[] good = {"ab", "-", "aa", "ab,cd1", "-,ab2", "ab;cd,ef1;-", " a b , - 1 ; h i "};
        for (String text : good) {
            faultOf(2, text, NONE);
        }
        faultOf(2, "", 0);
        faultOf(2, "a", 1);
        faultOf(2, "aj", 1);
        faultOf(2, "j", 0);
        faultOf(2, "a-", 1);
        faultOf(2, "ab1", 2);
        faultOf(2, "ab,", 3);
        faultOf(2, "ab,cd", 5);
        faultOf(2, "ab,cd;", 5);
        faultOf(2, "ab,cd3", 5);
        faultOf(2, "ab,cd0", 5);
        faultOf(2, "ab,cd11", 6);
        faultOf(2, "ab,cd1,ef", 6);
        faultOf(2, "ab;", 3);
        faultOf(2, "ab;;", 3);
        faultOf(2, "abcd", 2);
        faultOf(2, "-;".repeat(29) + "-", NONE);
        faultOf(2, "-;".repeat(29) + "- ", NONE);
        faultOf(2, "-;".repeat(30), 59);
        faultOf(2, "-;".repeat(30) + "-", 59);
        faultOf(2, "-;".repeat(29) + "ab,-1 ;ab", 64);
    }

    private static void texts() {
        HoldTwo game = new HoldTwo();
        due("a line without a game", Check.text(game, 2, "ab"), NONE);
        due("the tape is as it was", game.count(2), 2);
        due("no such sort", game.text(3), NONE);
        due("no such sort", game.text(-1), NONE);
        due("a game with a fault", Check.text(game, 0, "X.;aa"), NONE);
        due("the tape is as it was", game.count(2), 5);
        due("still no game", game.stand(), NONE);
        for (int i = 0; i < 4; i++) {
            due("law", Check.text(game, 1, "y:" + i), i);
        }
        due("the tape is empty", game.count(2), 0);
        due("a fifth law", Check.text(game, 1, "y:4"), NONE);
        due("the tape is as it was", game.count(2), 3);
        due("laws", game.count(1), 4);
        game.law(0, 2);
        game.law(1, 3);
        due("game", Check.text(game, 0, ROW), 3);
        due("line", Check.text(game, 2, "ab;-;ab,cb2"), 3);
        Check.tape(game, "ab");
        due("no such sort, of what would be a line", game.text(3), NONE);
        due("no such sort, of what would be a line", game.text(-1), NONE);
        due("the tape is as it was", game.count(2), 2);
        game.image();
        due("made", game.hold(1, NONE, 0), 1);
        due("a game with a fault", Check.text(game, 0, "X;"), NONE);
        due("nothing is changed", game.count(0), 3);
        due("nor the line", game.count(4), 3);
        due("nor the moves", game.count(3), 1);
        due("nine places", Check.text(game, 0, ".........;ab"), 9);
        due("laws stay", game.count(1), 4);
        due("the judging law stays", game.count(5), 2);
        due("the law for ways stays", game.count(6), 3);
        due("the line is gone", game.count(4), NONE);
        due("no line", game.judge(0), HIDDEN);
        due("the image is gone", game.back(), NONE);
        due("the moves are gone", game.count(3), 0);
        due("the stand", game.stand(), 0);
        due("it is over as X has no man", game.over(), 2);
    }

    private static void laws() {
        HoldTwo game = new HoldTwo();
        due("no law yet", game.law(0, 0), false);
        due("none", game.law(0, NONE), true);
        Check.text(game, 1, "y:1");
        due("judges", game.law(0, 0), true);
        due("for ways", game.law(1, 0), true);
        due("no such law", game.law(0, 1), false);
        due("no such law", game.law(1, -2), false);
        due("no such law", game.law(0, LOW), false);
        due("no such law", game.law(0, HIGH), false);
        due("no such what", game.law(2, 0), false);
        due("no such what", game.law(-1, NONE), false);
        due("judging", game.count(5), 0);
        due("for ways", game.count(6), 0);
        due("none judges", game.law(0, NONE), true);
        due("judging", game.count(5), NONE);
        due("for ways", game.count(6), 0);
    }

    /** The sign of a law's worth behind the first move of a game: 1 X has won by it, 2 O, 0 nobody. */
    private static void worthIs(String law, int want) {
        HoldTwo game = game("X.O.;ab,bc,cd,ca;bc/cd;p", law);
        due("hold", game.hold(1, 99, 0), 1);
        due(law, game.over(), want);
    }

    /** Behind a to b: a 1, b 1, g 1, h 1, e 2; O goes from c to a, b's man is not taken, d, or passes: m 3. */
    private static void worths() {
        String[] won = {"y:1", "y:a=1&b=1&g=1&h=1&e=2&m=3?1", "y:a>1?0-1;y:b<2?2;y:0-1", "y:1-2-3+5", "y:8/2/2-1", "y:2+3*4-13",
            "y:[2+3]*4-19", "y:[0-7]/2+4", "y:7/0+1", "y:9999*9999-9999*9999+1", "y:9999*9999-1000*1000+1", "y:9999*9999/1000-999",
            "y:[0-9999]*9999+1000*1000+1", "y:!a=2?1", "y:a=2|b=1?1;y:0-1", "y:a=1|b=2&b=3?1;y:0-1", "y:(a=2|b=1)&m=3?1",
            "y:!a=2&b=1?1", "y:!(a=1&b=2)?1", "y:!!a=1?1", "y:a<2&a>0?1", "y:1 0-9", "y:0001"};
        for (String law : won) {
            worthIs(law, 1);
        }
        String[] lost = {"y:0-1", "y:a-2", "y:a<1?1;y:m<4?0-5;y:1", "y:9999*9999-1000*1000-1", "y:[0-9999]*9999+1000*1000-1"};
        for (String law : lost) {
            worthIs(law, 2);
        }
        String[] nobody = {"y:0", "y:a>1?1", "y:a>1?1;y:m=0?0-1", "y:1/2", "y:[0-1]/2", "y:5/0", "y:9999*9999-1000*1000", "y:!a=1?1",
            "y:!a=2&b=2?1", "y:a=1&b=2?1", "y:a-b;y:1"};
        for (String law : nobody) {
            worthIs(law, 0);
        }
    }

    private static void stands() {
        HoldTwo game = game(ROW);
        due("X at a, O at b", game.stand(), 2 * (1 + 2 * 3));
        due("a", game.at(0), 1);
        due("b", game.at(1), 2);
        due("c", game.at(2), 0);
        CHECK.noPlace(game, 3);
        CHECK.noPlace(game, -1);
        CHECK.noPlace(game, 9);
        CHECK.noPlace(game, LOW);
        CHECK.noPlace(game, HIGH);
        due("set", game.set(53), true);
        due("all are O, whose turn it is", game.stand(), 53);
        due("c", game.at(2), 2);
        due("set 54", game.set(54), false);
        due("set -1", game.set(-1), false);
        due("set far", game.set(HIGH), false);
        due("unchanged", game.stand(), 53);
        HoldTwo nine = game("OOOOOOOOO;ab");
        due("the highest but for the turn", nine.stand(), 39364);
        due("set", nine.set(39365), true);
        due("set", nine.set(39366), false);
        due("i", nine.at(8), 2);
    }

    private static void moves() {
        HoldTwo game = game("X.O.X;cb,ac,ab,ae,de;/;pt");
        int[] codes = {1, 2, 43, 99};
        due("how many", game.moves(NONE), 4);
        for (int i = 0; i < codes.length; i++) {
            due("move " + i, game.moves(i), codes[i]);
        }
        due("no such one", game.moves(4), NONE);
        due("no such one", game.moves(-2), NONE);
        due("no such one", game.moves(HIGH), NONE);
        game.set(game.stand() + 1);
        due("O takes and passes", game.moves(NONE), 3);
        due("c takes a", game.moves(0), 20);
        due("c to b", game.moves(1), 21);
        due("pass", game.moves(2), 99);
        due("taken", game.hold(20, 21, 0), 1);
        due("O is at a, one X is left", game.stand(), 2 * (2 + 81));
        HoldTwo shut = game("XO;ab");
        due("without taking", shut.moves(NONE), 0);
    }

    private static void holdAndOver() {
        HoldTwo game = game("X.O.;ab,bc,cd,da");
        due("not over", game.over(), 0);
        due("two alike", game.hold(1, 1, 0), NONE);
        due("one alone of two", game.hold(1, NONE, 0), NONE);
        due("no such pick", game.hold(1, 3, 2), NONE);
        due("no such pick", game.hold(1, 3, -1), NONE);
        due("no move", game.hold(1, 2, 0), NONE);
        due("no move, not picked", game.hold(2, 1, 1), NONE);
        due("no pass", game.hold(1, 99, 0), NONE);
        due("none at all", game.hold(NONE, NONE, 0), NONE);
        due("nothing made", game.count(3), 0);
        due("either way round", game.hold(3, 1, 1), 1);
        due("a to b", game.stand(), 2 * (3 + 18) + 1);
        due("the second", game.hold(23, NONE, 0), 2);
        due("c to d", game.stand(), 2 * (3 + 54));
        HoldTwo end = game("X.O;ab,bc");
        due("alone, no such pick", end.hold(1, NONE, 1), NONE);
        due("alone, with another", end.hold(1, 10, 0), NONE);
        due("alone, twice", end.hold(1, 1, 0), NONE);
        due("alone", end.hold(1, NONE, 0), 1);
        due("O has no move", end.over(), 1);
        due("over", end.hold(21, NONE, 0), NONE);
        due("over", end.hold(NONE, NONE, 0), NONE);
        HoldTwo drawn = game("OX;ab;/;n");
        due("drawn", drawn.over(), 3);
        due("over", drawn.hold(10, NONE, 0), NONE);
        HoldTwo lost = game("OX;ab");
        due("X has no move", lost.over(), 2);
        lost.set(lost.stand() + 1);
        due("O has no move", lost.over(), 1);
    }

    private static void wonAndLost() {
        HoldTwo game = game("X.O;ab,bc", "y:m=0?0-1");
        due("made", game.hold(1, NONE, 0), 1);
        due("the law comes before that O has no move", game.over(), 2);
        due("moves all the same", game.moves(NONE), 0);
        due("the stand as it was set is not over by a law", game.set(43), true);
        due("but as O has no move", game.over(), 1);
        HoldTwo won = game("X..O;ab,bc,cd;b/", "y:g");
        due("made", won.hold(1, NONE, 0), 1);
        due("X has won", won.over(), 1);
        due("O has a move", won.moves(NONE), 1);
        due("which it cannot hold out", won.hold(32, NONE, 0), NONE);
        due("another law", won.law(0, NONE), true);
        due("X has won all the same", won.over(), 1);
        due("set", won.set(won.stand()), true);
        due("not over", won.over(), 0);
        due("no move made", won.count(3), 0);
        due("O goes on", won.hold(32, NONE, 0), 1);
        HoldTwo byO = game("X..O;ab,bc,cd;/c", "y:g-h");
        due("made", byO.hold(1, NONE, 0), 1);
        due("not over", byO.over(), 0);
        due("made", byO.hold(32, NONE, 0), 2);
        due("O has won", byO.over(), 2);
    }

    private static void judged(HoldTwo game, String line, int turn, int why, int number) {
        due(line, Check.text(game, 2, line) > 0, true);
        due("turn of " + line, game.judge(0), turn);
        due("why of " + line, game.judge(1), why);
        due("number of " + line, game.judge(2), number);
    }

    private static void judge() {
        HoldTwo game = game("X..O;ab,bc,cd;c/;p", "y:g");
        int start = 2 * (1 + 54);
        int second = 2 * (3 + 54) + 1;
        int third = 2 * (3 + 54);
        due("no line", game.judge(0), HIDDEN);
        judged(game, "ab,-1", NONE, 0, second);
        judged(game, "ab,-2", NONE, 0, start + 1);
        judged(game, "ab,-1;dc,-2", NONE, 0, third);
        judged(game, "ab,-1;dc,-2;bc,-1", NONE, 0, 2 * (9 + 54) + 1);
        judged(game, "ab,-1;dc,-2;bc,-1;-,-1", 3, 1, 2 * (9 + 54) + 1);
        judged(game, "ab,-1;-", 1, 4, second);
        judged(game, "ab,-1;bc", 1, 2, second);
        judged(game, "ab,-1;dc,dc1", 1, 3, second);
        judged(game, "ab,-1;ab,ab1", 1, 2, second);
        judged(game, "ab,ac1;-", 0, 2, start);
        judged(game, "ab,gh2", 0, 2, start);
        judged(game, "aa", 0, 2, start);
        due("no such what", game.judge(3), HIDDEN);
        due("no such what", game.judge(-1), HIDDEN);
        due("the stand is as it was", game.stand(), start);
        game.set(0);
        judged(game, "-,ab2;-,dc1", NONE, 0, third);
        due("the law is that of now", game.law(0, NONE), true);
        judged(game, "ab,-1;dc,-2;bc,-1;-,dc1", 3, 2, 2 * (9 + 54) + 1);
        HoldTwo alone = game("X.O;ab,bc");
        judged(alone, "ab", NONE, 0, 43);
        judged(alone, "ab,ab1", 0, 3, 38);
        judged(alone, "ab;cb", 1, 1, 43);
        due("fewer turns", Check.text(alone, 2, "ab"), 1);
        due("a fault", Check.text(alone, 2, "ab,"), NONE);
        due("the line is as it was", alone.count(4), 1);
    }

    private static void values() {
        HoldTwo game = game(ROW, "y:b=0?1");
        due("X takes", game.value(NONE, 0), 99999);
        due("O holds out to take, and to step back", game.value(15, 0), 99997);
        due("O takes", game.value(15, 1), 99999);
        due("X must step ahead", game.value(38, 0), -99998);
        due("likewise", game.value(38, 1), -99998);
        due("O takes", game.value(43, 0), 99999);
        due("no man", game.value(0, 0), -100000);
        due("no man", game.value(1, 1), -100000);
        due("no such number", game.value(54, 0), HIDDEN);
        due("no such number", game.value(-2, 0), HIDDEN);
        due("no such what", game.value(14, 2), HIDDEN);
        due("no such what", game.value(NONE, -1), HIDDEN);
        game.law(0, NONE);
        due("who is taken has no move", game.value(14, 0), 99999);
        HoldTwo drawn = game("XO.;ab,bc;c/a;tn", "y:b=0?0-1");
        due("who takes has lost", drawn.value(14, 0), -99999);
        due("no man", drawn.value(0, 0), 0);
        due("O holds out to lose", drawn.value(15, 0), -99999);
        due("X must step ahead, O must take", drawn.value(38, 1), 99998);
        due("O steps back", drawn.value(15, 1), -99997);
        drawn.law(0, NONE);
        due("who is taken has no move, which is drawn", drawn.value(14, 0), 0);
    }

    private static void pairs() {
        HoldTwo game = game(ROW, "y:b=0?1");
        due("one alone", game.pair(0), 1);
        due("no second", game.pair(1), NONE);
        due("that one", game.pair(2), 1);
        due("proof", game.proof(0), 99999);
        due("no such one", game.proof(1), HIDDEN);
        game.set(15);
        due("first", game.pair(0), 10);
        due("second", game.pair(1), 12);
        due("how many", game.pair(2), 1);
        due("proof", game.proof(0), 99999);
        due("proof", game.proof(1), 99997);
        due("no such one", game.proof(2), HIDDEN);
        due("no such one", game.proof(-1), HIDDEN);
        due("no such what", game.pair(3), NONE);
        due("no such what", game.pair(-1), NONE);
        game.set(0);
        due("no moves", game.pair(0), NONE);
        due("no moves", game.pair(2), NONE);
        HoldTwo star = game(STAR, "y:g");
        due("two that are worth 0 beside the one that wins: first", star.pair(0), 1);
        due("second", star.pair(1), 2);
        due("all three pairs have 0 as the lesser", star.pair(2), 3);
        HoldTwo two = game("X...;ab,ac,ad;bd/;n", "y:g");
        due("first", two.pair(0), 1);
        due("second", two.pair(1), 3);
        due("just that", two.pair(2), 1);
        due("held", two.value(NONE, 0), 99999);
    }

    private static void byMen() {
        HoldTwo game = game(ROW, "y:b=0?1");
        due("holding out hurts", game.hurts(1, 1, 1, false, NONE), 2);
        due("first", game.hurts(1, 1, 1, false, 0), 15);
        due("second", game.hurts(1, 1, 1, false, 1), 31);
        due("no third", game.hurts(1, 1, 1, false, 2), NONE);
        due("no such", game.hurts(1, 1, 1, false, -2), NONE);
        due("it helps nowhere", game.hurts(1, 1, 1, true, NONE), 0);
        due("longest win", game.ending(1, 1, 1, 0), 15);
        due("rounds", game.ending(1, 1, 1, 1), 3);
        due("puzzles", game.puzzles(1, 1, 1, 0), 2);
        due("hardest", game.puzzles(1, 1, 1, 1), 15);
        due("rounds", game.puzzles(1, 1, 1, 2), 3);
        due("nobody wins without men", game.ending(0, 0, 0, 0), NONE);
        due("nobody wins without men", game.ending(0, 0, 0, 1), NONE);
        due("no puzzles", game.puzzles(0, 3, 0, 0), 0);
        due("no hardest", game.puzzles(0, 3, 0, 1), NONE);
        due("no rounds", game.puzzles(0, 3, 0, 2), NONE);
        due("no men at all", game.hurts(0, 0, 0, false, NONE), 0);
        int[][] wrong = {{-1, 1, 0}, {1, -1, 0}, {2, 2, 0}, {4, 0, 1}, {0, 4, 1}, {1, 1, 2}, {1, 1, -1}, {HIGH, HIGH, 0}, {LOW, LOW, 0}};
        for (int[] men : wrong) {
            due("hurts", game.hurts(men[0], men[1], men[2], false, NONE), NONE);
            due("ending", game.ending(men[0], men[1], men[2], 0), NONE);
            due("puzzles", game.puzzles(men[0], men[1], men[2], 0), NONE);
        }
        due("no such what", game.ending(1, 1, 1, 2), NONE);
        due("no such what", game.ending(1, 1, 1, -1), NONE);
        due("no such what", game.puzzles(1, 1, 1, 3), NONE);
        due("no such what", game.puzzles(1, 1, 1, -1), NONE);
    }

    /** X alone goes round a square; O, who only passes, is not helped by the law when X must hold out two. */
    private static void helps() {
        HoldTwo game = game("X...;ab,bc,cd,da;c/;p", "y:g");
        due("O passes: held", game.value(7, 0), 0);
        due("plain", game.value(7, 1), -99998);
        due("helps", game.hurts(1, 0, 1, true, NONE), 4);
        due("the second", game.hurts(1, 0, 1, true, 1), 7);
        due("hurts not", game.hurts(1, 0, 1, false, NONE), 0);
        due("X is hurt", game.hurts(1, 0, 0, false, NONE), 4);
        due("and not helped", game.hurts(1, 0, 0, true, 0), NONE);
    }

    private static void rounds() {
        HoldTwo game = game("X..;ab,bc;/;p");
        due("a to b, pass, b to a, pass", game.round(0), 4);
        due("all are in the round", game.round(1), 4);
        game.set(18);
        due("c to b, pass, b to a, pass, a to b", game.round(0), 5);
        due("from b and from a", game.round(1), 4);
        due("no such what", game.round(2), NONE);
        due("no such what", game.round(-1), NONE);
        HoldTwo won = game("X.O;ab,bc");
        due("it is won", won.round(0), NONE);
        HoldTwo drawn = game("X.O;ab,bc;/;n");
        due("it ends", drawn.round(0), NONE);
        due("and is 0", drawn.value(NONE, 0), 0);
        drawn.set(0);
        due("no moves", drawn.round(1), NONE);
    }

    private static void threats() {
        HoldTwo game = game("X....;ab,ac,bd,be,cd,ce;de/;p", "y:g");
        due("none at once", game.threats(0), 0);
        due("behind a to b and a to c are two each", game.threats(1), 1);
        game.set(6);
        due("b to d and to e", game.threats(0), 2);
        due("a pass alone keeps both", game.threats(1), 0);
        due("no such what", game.threats(2), NONE);
        due("no such what", game.threats(-1), NONE);
        game.law(0, NONE);
        due("no law", game.threats(0), 0);
        HoldTwo end = game("X.O;ab,bc");
        due("to win as O has no move is no threat", end.threats(0), 0);
        HoldTwo three = game("X.....;ab,ac,ad,be,bf,ce,cf,de,df;ef/;", "y:g");
        due("three moves that bite", three.threats(1), 3);
        HoldTwo lost = game("X....;ab,ac,bd,be,cd,ce;de/c;p", "y:m<2&e=4&g<1?0-1;y:g");
        due("a move that loses does not bite", lost.threats(1), 0);
    }

    private static void turningsOf(String net, int want) {
        due("turnings of " + net, game(net).turnings(NONE), want);
    }

    private static void turnings() {
        turningsOf("X.;ab", 2);
        turningsOf("X.;ab;a/", 1);
        turningsOf("X.;ab;a/b", 1);
        turningsOf("X.;ab;ab/ab", 2);
        turningsOf("...;ab", 2);
        turningsOf("...;ab,bc,ca", 6);
        turningsOf("....;ab,bc,cd,da", 8);
        turningsOf("....;ab,bc,cd,da;a/c", 2);
        turningsOf("....;ab,bc,cd,da;ac/", 4);
        turningsOf("....;ab,bc,cd,da;ab/", 2);
        turningsOf(".........;ab,bc,de,ef,gh,hi,ad,dg,be,eh,cf,fi", 8);
        turningsOf(".........;ab,bc,cd,de,ef,fg,gh,hi,ia", 18);
        turningsOf(".........;ab,ac,ad,ae,af,ag,ah,ai", 40320);
        turningsOf(".........;ab", 2 * 5040);
        turningsOf(".........;ab,cd,ef,gh", 384);
        turningsOf(".........;ab,bc,ca,de,ef,fd,gh,hi,ig", 1296);
        turningsOf("........;ab,bc,cd,da,ef,fg,gh,he,ae,bf,cg,dh", 48);
        turningsOf("........;ab,bc,cd,da,ef,fg,gh,he,ae,bf,cg,dh;a/", 6);
        String whole = "X.O.X.O.X;ab,ac,ad,ae,af,ag,ah,ai,bc,bd,be,bf,bg,bh,bi,cd,ce,cf,cg,ch,ci,de,df,dg,dh,di,ef,eg,eh,ei,fg,fh,fi,gh,gi,hi";
        turningsOf(whole, 362880);
        HoldTwo game = game(whole);
        due("O, O, X, X, X from a on", game.turnings(game.stand()), 2 * (2 + 2 * 3 + 9 + 27 + 81));
        due("with its turn", game.turnings(39365), 39365);
        due("no such one", game.turnings(39366), NONE);
        due("no such one", game.turnings(-2), NONE);
        HoldTwo square = game("X...;ab,bc,cd,da;c/");
        due("d to b", square.turnings(55), 2 * 3 + 1);
        due("c stays", square.turnings(2 * 9), 2 * 9);
        due("a stays", square.turnings(2), 2);
    }

    private static void matches() {
        HoldTwo game = game(STAR, "y:g");
        int[][] wrong = {{-1, 0, 1}, {4, 0, 1}, {0, -1, 1}, {0, 4, 1}, {0, 0, 0}, {0, 0, 201}, {0, 0, -1}, {HIGH, LOW, HIGH}};
        for (int[] way : wrong) {
            due("match", game.match(way[0], way[1], 0, way[2]), NONE);
            due("series", game.series(way[0], way[1], 1, way[2], 0), NONE);
        }
        due("first two, the first", game.match(0, 0, 0, 1), 1);
        due("at most 200", game.match(0, 0, 0, 200), 1);
        due("the stand is as it was", game.stand(), 2);
        due("no move was made", game.count(3), 0);
        // the draws of 3 and of 2 from seed 0 are 2, 0: a to d and a to b, held out in order
        long[] seeds = {0, 1, 2, 3, 4, 5, -1, Long.MAX_VALUE, Long.MIN_VALUE};
        int[] first = {1, 0, 1, 0, 1, 0, 0, 1, 1};
        // and the draws of 2 behind them 1, 0, 0, 1, 0, 0, 1, 1, 1
        int[] picked = {0, 0, 1, 0, 1, 0, 0, 0, 0};
        // the first draws of 2 alone
        int[] alone = {0, 1, 1, 0, 1, 1, 1, 1, 0};
        for (int i = 0; i < seeds.length; i++) {
            due("X draws, seed " + seeds[i], game.match(3, 0, seeds[i], 1), first[i]);
            due("both draw, seed " + seeds[i], game.match(3, 3, seeds[i], 1), picked[i]);
            due("O draws, seed " + seeds[i], game.match(0, 3, seeds[i], 1), alone[i]);
        }
        HoldTwo line = game("X.O;ab,bc");
        due("O has no move behind the one", line.match(0, 0, 0, 1), 1);
        due("X goes", line.hold(1, NONE, 0), 1);
        due("it is over", line.match(3, 3, 5, 9), 1);
        HoldTwo square = game("X.O.;ab,bc,cd,da;/a", "y:g");
        due("X goes, O comes: not by then", square.match(0, 0, 0, 1), 0);
    }

    /** The law for ways is the second one: by it X would rather go to its goal, which wins. */
    private static void waysByLaw() {
        HoldTwo game = game(STAR, "y:g", "y:g");
        due("X holds out b and c, O picks the first", game.match(1, 0, 0, 1), 1);
        due("O picks the lesser", game.match(1, 1, 0, 1), 0);
        due("X holds out the first two, O picks the lesser", game.match(0, 1, 0, 1), 0);
        HoldTwo last = game("X...;ab,ac,ad;d/;n", "y:g", "y:g");
        due("X holds out b and d in order, O picks the first", last.match(1, 0, 0, 1), 0);
        due("without a law the first two", last.law(1, NONE), true);
        due("of like ones the first", last.match(1, 1, 0, 1), 0);
        HoldTwo away = game(STAR, "y:g", "y:0-g");
        due("X holds out c and d", away.match(1, 0, 0, 1), 0);
        due("for the one who moves", away.match(0, 1, 0, 1), 1);
        HoldTwo two = game("X...;ab,ac,ad;cd/;n", "y:g", "y:g");
        due("X holds out c and d", two.match(1, 1, 0, 1), 1);
        HoldTwo shut = game("X...O;ab,ac,ad,be;c/;n", "y:g", "y:1-m");
        due("X holds out b, which shuts O in, and c, the first of the others; O picks c", shut.match(1, 1, 0, 1), 1);
    }

    private static void waysByValue() {
        HoldTwo game = game("X...;ab,ac,ad;cd/;n", "y:g");
        due("X holds out c and d", game.match(2, 0, 0, 1), 1);
        due("O may pick", game.match(2, 2, 0, 1), 1);
        due("O picks of b and c the lesser", game.match(0, 2, 0, 1), 0);
        HoldTwo star = game(STAR, "y:g");
        due("X holds out the first two, O picks c", star.match(0, 2, 0, 1), 0);
        due("X holds out b and c, O picks c", star.match(2, 2, 0, 1), 0);
        HoldTwo row = game(ROW, "y:b=0?1");
        row.set(15);
        due("O holds out both, X picks the longer", row.match(2, 2, 0, 1), 0);
        due("O takes in the end", row.match(2, 2, 0, 3), 2);
    }

    private static void series() {
        HoldTwo game = game(STAR, "y:g");
        due("seeds 0 to 5, X draws", game.series(3, 0, 6, 1, 0), 3);
        due("seed 0 alone", game.series(3, 3, 1, 1, 0), 0);
        due("O never", game.series(3, 0, 6, 1, 1), 0);
        due("all twenty", game.series(0, 0, 20, 1, 0), 20);
        due("twenty-one", game.series(0, 0, 21, 1, 0), NONE);
        due("none", game.series(0, 0, 0, 1, 0), NONE);
        due("no such what", game.series(0, 0, 1, 1, 2), NONE);
        due("no such what", game.series(0, 0, 1, 1, -1), NONE);
        HoldTwo row = game(ROW, "y:b=0?1");
        row.set(43);
        due("O takes", row.series(0, 0, 7, 5, 1), 7);
        due("X does not", row.series(0, 0, 7, 5, 0), 0);
    }

    /** Two places: of the 18 stands those without moves are lost, and those with a move ahead of one are won. */
    private static void all() {
        HoldTwo game = game("X.;ab");
        due("won", game.all(0), 4);
        due("lost", game.all(1), 14);
        due("neither", game.all(2), 0);
        due("won plainly", game.all(3), 4);
        due("lost plainly", game.all(4), 14);
        due("neither plainly", game.all(5), 0);
        due("most rounds", game.all(6), 1);
        due("most rounds plainly", game.all(7), 1);
        due("no such what", game.all(8), NONE);
        due("no such what", game.all(-1), NONE);
        HoldTwo drawn = game("X.;ab;/;n");
        due("none is won", drawn.all(0), 0);
        due("none is lost", drawn.all(1), 0);
        due("all are 0", drawn.all(2), 18);
        due("no win has rounds", drawn.all(6), 0);
        HoldTwo row = game(ROW, "y:b=0?1");
        due("the longest by two", row.all(6), 3);
    }

    private static void images() {
        HoldTwo game = game("X..O;ab,bc,cd;b/", "y:g");
        due("no image", game.back(), NONE);
        due("image", game.image(), 0);
        due("won", game.hold(1, NONE, 0), 1);
        due("back", game.back(), 0);
        due("not over", game.over(), 0);
        due("won again", game.hold(1, NONE, 0), 1);
        due("another image", game.image(), 1);
        due("set", game.set(0), true);
        due("back", game.back(), 1);
        due("over is kept", game.over(), 1);
        due("the stand is kept", game.stand(), 2 * (3 + 54) + 1);
        due("the moves are kept", game.count(3), 1);
        due("back again", game.back(), 1);
        due("another game", Check.text(game, 0, ROW), 3);
        due("no image of it", game.back(), NONE);
    }

    private static void counts() {
        HoldTwo game = game(ROW, "y:1", "y:2");
        Check.text(game, 2, "ab;-");
        game.feed(0x20202000, 0, 0, 0, 0);
        game.hold(1, NONE, 0);
        int[] counts = {3, 2, 3, 1, 2, 0, 1, HIDDEN};
        for (int i = 0; i < counts.length; i++) {
            due("count " + i, game.count(i), counts[i]);
        }
        due("no such", game.count(-1), HIDDEN);
        due("no such", game.count(LOW), HIDDEN);
    }
}
