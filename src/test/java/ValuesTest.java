import java.util.Random;

/** Every stand of many games: values, proofs, pairs, rounds, threats and all that is made of them. */
public final class ValuesTest {
    private static final int GAMES = 90;
    private static final String[] NETS = {"ab", "ab,cb,de", "ab,cd,ef", "ga,ab,bc,ca,de,ef,fd", "ab,bc,ca,de,ef,fd",
        "ad,ae,af,ag,bd,be,bf,bg,cd,ce,cf,cg", "da,db,dc,de,df,dg", "ab,bc,cd,de,ef,fg", "ab,bc,cd,de,ef,fg,ga",
        "ab,bc,cd,da,ae,be,ce,de", "ab,ac,bc,cd,de,df,ef", "ab,ac,ad,ae,bc,bd,be,cd,ce,de,ef,fg", "ac,bc,cd,ce,ef,eg"};
    private final Check check;
    private final HoldTwo game = new HoldTwo();
    private final Told told = new Told();
    private String name = "";

    private ValuesTest(Check check) {
        this.check = check;
    }

    public static void main(String[] args) {
        Check check = new Check();
        for (int seed = 0; seed < GAMES; seed++) {
            Random random = new Random(1000 + seed);
            Texts texts = new Texts(random);
            ValuesTest test = new ValuesTest(check);
            String text = texts.game(seed % 15 == 0 ? 5 : 4);
            test.tell(0, text);
            if (seed % 4 != 0) {
                test.tell(1, texts.law());
                test.judgeBy(0);
            }
            test.tell(1, texts.law());
            test.waysBy(test.told.count(1) - 1);
            test.go();
        }
        nets(check);
        large(check, "X.X.O.O;ab,bc,cd,de,ef,fg,ga,ad;efg/abc;t", "y:g>1?1;y:b=0?1;y:m<2?0-1");
        large(check, "XX...OO;ab,bc,cd,de,ef,fg,ga,ae;fg/ab;pn", "y:g=2?1");
        large(check, "XX....OO;ab,bc,de,ef,gh,ad,dg,be,eh;gh/ab;n", "y:g>1?1;y:h>1?0-1");
        large(check, "XX..X..OO;ab,bc,de,ef,gh,hi,ad,dg,be,eh,cf,fi;ghi/abc;t", "y:g>1?1;y:b=0|a>b+2?1;y:m<3&g=0?0-1");
        check.finish();
    }

    private void tell(int sort, String text) {
        name = name + " " + text;
        Check.tape(game, text);
        told.end(0);
        for (int i = 0; i < text.length(); i += 20) {
            told.feed(Check.word(text, i), Check.word(text, i + 4), Check.word(text, i + 8), Check.word(text, i + 12),
                Check.word(text, i + 16));
        }
        same("text(" + sort + ")", game.text(sort), told.text(sort));
    }

    private void judgeBy(int law) {
        same("law(0)", game.law(0, law) ? 1 : 0, told.law(0, law) ? 1 : 0);
    }

    private void waysBy(int law) {
        same("law(1)", game.law(1, law) ? 1 : 0, told.law(1, law) ? 1 : 0);
    }

    private void same(String call, int got, int want) {
        check.due(name + " " + call, got, want);
    }

    private int size() {
        int size = 2;
        for (int i = 0; i < told.count(0); i++) {
            size *= 3;
        }
        return size;
    }

    private void go() {
        for (int number = 0; number < size(); number++) {
            same("value(" + number + ",0)", game.value(number, 0), told.value(number, 0));
            same("value(" + number + ",1)", game.value(number, 1), told.value(number, 1));
            same("set(" + number + ")", game.set(number) ? 1 : 0, told.set(number) ? 1 : 0);
            String at = "at " + number + " ";
            for (int i = -2; i < told.moves(-1) + 2; i++) {
                same(at + "moves(" + i + ")", game.moves(i), told.moves(i));
                same(at + "proof(" + i + ")", game.proof(i), told.proof(i));
            }
            for (int what = 0; what < 3; what++) {
                same(at + "pair(" + what + ")", game.pair(what), told.pair(what));
                same(at + "round(" + what + ")", game.round(what), told.round(what));
                same(at + "threats(" + what + ")", game.threats(what), told.threats(what));
            }
            same(at + "turnings", game.turnings(number), told.turnings(number));
            same(at + "over()", game.over(), told.over());
            for (int ways = 0; ways < 16 && number % 3 == 0; ways++) {
                int most = 1 + number % 4;
                same(at + "match " + ways, game.match(ways / 4, ways % 4, number, most), told.match(ways / 4, ways % 4, number, most));
            }
        }
        sums();
    }

    /** Nets of seven places with some order: their turnings, and the lowest of some stands. */
    private static void nets(Check check) {
        Random random = new Random(5000);
        for (String net : NETS) {
            for (String goals : new String[] {"", ";a/", ";ab/c", ";/efg"}) {
                ValuesTest test = new ValuesTest(check);
                test.tell(0, ".......;" + net + goals);
                test.same("turnings", test.game.turnings(-1), test.told.turnings(-1));
                for (int i = 0; i < 100; i++) {
                    int number = random.nextInt(test.size());
                    test.same("turnings(" + number + ")", test.game.turnings(number), test.told.turnings(number));
                }
            }
        }
    }

    private void sums() {
        for (int what = -1; what < 9; what++) {
            same("all(" + what + ")", game.all(what), told.all(what));
        }
        int most = told.count(0) + 1;
        for (int xs = -1; xs <= most; xs++) {
            for (int os = -1; os <= most; os++) {
                for (int turn = 0; turn < 2; turn++) {
                    byMen(xs, os, turn);
                }
            }
        }
    }

    private void byMen(int xs, int os, int turn) {
        String men = "(" + xs + "," + os + "," + turn + ",";
        for (int what = 0; what < 3; what++) {
            same("ending" + men + what + ")", game.ending(xs, os, turn, what), told.ending(xs, os, turn, what));
            same("puzzles" + men + what + ")", game.puzzles(xs, os, turn, what), told.puzzles(xs, os, turn, what));
        }
        for (int i = -2; i < 4; i++) {
            same("hurts" + men + i + ")", game.hurts(xs, os, turn, false, i), told.hurts(xs, os, turn, false, i));
            same("helps" + men + i + ")", game.hurts(xs, os, turn, true, i), told.hurts(xs, os, turn, true, i));
        }
    }

    /** Games with more places: their values alone, and what is counted of them. */
    private static void large(Check check, String text, String law) {
        ValuesTest test = new ValuesTest(check);
        test.tell(1, law);
        test.judgeBy(0);
        test.tell(0, text);
        for (int number = 0; number < test.size(); number++) {
            test.same("value(" + number + ",0)", test.game.value(number, 0), test.told.value(number, 0));
            test.same("value(" + number + ",1)", test.game.value(number, 1), test.told.value(number, 1));
        }
        for (int what = 0; what < 8; what++) {
            test.same("all(" + what + ")", test.game.all(what), test.told.all(what));
        }
        test.byMen(2, 2, 0);
        test.byMen(2, 1, 1);
    }
}
