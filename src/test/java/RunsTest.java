import java.util.ArrayList;
import java.util.List;
import java.util.NoSuchElementException;
import java.util.Random;

/** Random runs of 512 calls, answered by HoldTwo as by Told; no call throws but at(). */
public final class RunsTest {
    private static final int CALLS = 512;
    private static final int RUNS = 200;
    private static final int[] EDGES = {-1, 0, 1, 2, -2, 3, 7, 8, 9, 10, 99, 100000, Integer.MAX_VALUE, Integer.MIN_VALUE};

    private final Random random;
    private final Texts texts;
    private final HoldTwo game = new HoldTwo();
    private final Told told = new Told();
    private final Check check;
    private final List<String> run = new ArrayList<>();
    private final int most;
    private String start = "";
    private boolean broken = false;

    private RunsTest(long seed, int most, Check check) {
        random = new Random(seed);
        texts = new Texts(random);
        this.most = most;
        this.check = check;
    }

    public static void main(String[] args) {
        Check check = new Check();
        for (int seed = 0; seed < RUNS; seed++) {
            new RunsTest(seed, seed % 10 == 0 ? 6 : 4, check).go("run " + seed);
        }
        check.finish();
    }

    private void go(String name) {
        int calls = 0;
        while (calls < CALLS && !broken) {
            calls += step(name);
        }
        if (broken) {
            System.out.println(name + ": " + run);
        }
    }

    private int below(int n) {
        return n <= 0 ? -1 : random.nextInt(n);
    }

    private int any(int n) {
        return random.nextInt(12) == 0 ? EDGES[random.nextInt(EDGES.length)] : below(n + 1) - (random.nextInt(3) == 0 ? 1 : 0);
    }

    private void same(String name, String call, long got, long want) {
        run.add(call + " " + want);
        check.due(name + " " + call, got, want);
        broken |= got != want;
    }

    private int step(String name) {
        int kind = random.nextInt(100);
        if (kind < 8 || told.count(0) == 0 && kind < 40) {
            return feedText(name);
        }
        if (kind < 12) {
            int what = random.nextInt(3) == 0 ? any(1) : random.nextInt(2);
            int law = any(4);
            same(name, "law(" + what + "," + law + ")", game.law(what, law) ? 1 : 0, told.law(what, law) ? 1 : 0);
        } else if (kind < 40) {
            walk(name);
        } else if (kind < 60) {
            askStand(name, random.nextInt(9));
        } else if (kind < 92) {
            askValues(name, random.nextInt(9));
        } else {
            playMatch(name);
        }
        return 1;
    }

    private int feedText(String name) {
        int sort = random.nextInt(3);
        String text;
        if (sort == 0 && random.nextInt(3) > 0 && told.count(0) > 0) {
            sort = 1 + random.nextInt(2);
        }
        if (sort == 0) {
            text = texts.spoilt(texts.game(most));
        } else if (sort == 1) {
            text = texts.spoilt(texts.law());
        } else {
            text = texts.spoilt(texts.line(twin()));
        }
        int n = random.nextInt(10) == 0 ? any(20) : 0;
        same(name, "end(" + n + ")", game.end(n) ? 1 : 0, told.end(n) ? 1 : 0);
        int calls = 4;
        for (int i = 0; i < text.length(); i += 20) {
            int[] w = new int[5];
            for (int k = 0; k < 5; k++) {
                w[k] = Check.word(text, i + 4 * k);
            }
            same(name, "feed '" + text + "' " + i, game.feed(w[0], w[1], w[2], w[3], w[4]), told.feed(w[0], w[1], w[2], w[3], w[4]));
            calls++;
        }
        int other = any(2);
        same(name, "fault(" + other + ")", game.fault(other), told.fault(other));
        same(name, "fault(" + sort + ")", game.fault(sort), told.fault(sort));
        int got = game.text(sort);
        same(name, "text(" + sort + ")", got, told.text(sort));
        if (sort == 0 && got >= 0) {
            start = text;
        }
        return calls;
    }

    /** A game at its start, along which lines are made. */
    private Told twin() {
        Told twin = new Told();
        for (int i = 0; i < start.length(); i += 20) {
            twin.feed(Check.word(start, i), Check.word(start, i + 4), Check.word(start, i + 8), Check.word(start, i + 12),
                Check.word(start, i + 16));
        }
        twin.text(0);
        return twin;
    }

    private int someNumber() {
        int size = 2;
        for (int i = 0; i < told.count(0); i++) {
            size *= 3;
        }
        return random.nextInt(12) == 0 ? random.nextInt(2) * 2 * size + size - 3 + random.nextInt(6) : any(size);
    }

    private void walk(String name) {
        int kind = random.nextInt(10);
        if (kind == 0) {
            int number = someNumber();
            same(name, "set(" + number + ")", game.set(number) ? 1 : 0, told.set(number) ? 1 : 0);
        } else if (kind == 1) {
            same(name, "image()", game.image(), told.image());
        } else if (kind == 2) {
            same(name, "back()", game.back(), told.back());
        } else {
            int count = told.moves(-1);
            int one = told.moves(below(count));
            int other = told.moves(below(count));
            if (count == 1) {
                other = -1;
            }
            int pick = count == 1 ? 0 : random.nextInt(2);
            if (random.nextInt(8) == 0) {
                one = any(99);
            }
            if (random.nextInt(8) == 0) {
                other = any(99);
            }
            if (random.nextInt(8) == 0) {
                pick = any(2);
            }
            same(name, "hold(" + one + "," + other + "," + pick + ")", game.hold(one, other, pick), told.hold(one, other, pick));
        }
    }

    private void askStand(String name, int kind) {
        int i = any(9);
        switch (kind) {
            case 0:
                same(name, "at(" + i + ")", at(() -> game.at(i)), at(() -> told.at(i)));
                break;
            case 1:
                same(name, "stand()", game.stand(), told.stand());
                break;
            case 2:
                same(name, "moves(" + i + ")", game.moves(i), told.moves(i));
                break;
            case 3:
                same(name, "over()", game.over(), told.over());
                break;
            case 4:
                same(name, "judge(" + i % 4 + ")", game.judge(i % 4), told.judge(i % 4));
                break;
            case 5:
                same(name, "count(" + i + ")", game.count(i), told.count(i));
                break;
            case 6:
                same(name, "threats(" + i % 3 + ")", game.threats(i % 3), told.threats(i % 3));
                break;
            case 7:
                int number = someNumber();
                same(name, "turnings(" + number + ")", game.turnings(number), told.turnings(number));
                break;
            default:
                same(name, "turnings(-1)", game.turnings(-1), told.turnings(-1));
                break;
        }
    }

    private interface Asked {
        int answer();
    }

    private static int at(Asked asked) {
        try {
            return asked.answer();
        } catch (NoSuchElementException e) {
            return -7;
        }
    }

    private void askValues(String name, int kind) {
        int what = random.nextInt(8) == 0 ? any(9) : random.nextInt(3);
        int xs = any(3);
        int os = any(2);
        int turn = random.nextInt(9) == 0 ? any(3) : random.nextInt(2);
        String men = "(" + xs + "," + os + "," + turn + ",";
        switch (kind) {
            case 0:
                int number = someNumber();
                same(name, "value(" + number + "," + what + ")", game.value(number, what), told.value(number, what));
                break;
            case 1:
                int i = any(12);
                same(name, "proof(" + i + ")", game.proof(i), told.proof(i));
                break;
            case 2:
                same(name, "pair(" + what + ")", game.pair(what), told.pair(what));
                break;
            case 3:
                boolean help = random.nextBoolean();
                int k = random.nextInt(2) == 0 ? -1 : any(9);
                same(name, "hurts" + men + help + "," + k + ")", game.hurts(xs, os, turn, help, k), told.hurts(xs, os, turn, help, k));
                break;
            case 4:
                same(name, "ending" + men + what + ")", game.ending(xs, os, turn, what), told.ending(xs, os, turn, what));
                break;
            case 5:
                same(name, "puzzles" + men + what + ")", game.puzzles(xs, os, turn, what), told.puzzles(xs, os, turn, what));
                break;
            case 6:
                same(name, "round(" + what + ")", game.round(what), told.round(what));
                break;
            default:
                int sort = any(8);
                same(name, "all(" + sort + ")", game.all(sort), told.all(sort));
                break;
        }
    }

    private void playMatch(String name) {
        int x = random.nextInt(9) == 0 ? any(4) : random.nextInt(4);
        int o = random.nextInt(9) == 0 ? any(4) : random.nextInt(4);
        int moves = random.nextInt(9) == 0 ? (random.nextBoolean() ? 201 : any(201)) : 1 + random.nextInt(12);
        if (random.nextInt(3) == 0) {
            int n = random.nextInt(9) == 0 ? any(22) : 1 + random.nextInt(4);
            int what = random.nextInt(9) == 0 ? any(3) : random.nextInt(2);
            same(name, "series(" + x + "," + o + "," + n + "," + moves + "," + what + ")", game.series(x, o, n, moves, what),
                told.series(x, o, n, moves, what));
        } else {
            long seed = random.nextInt(3) == 0 ? random.nextLong() : random.nextInt(20);
            same(name, "match(" + x + "," + o + "," + seed + "," + moves + ")", game.match(x, o, seed, moves), told.match(x, o, seed, moves));
        }
    }
}
