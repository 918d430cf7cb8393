import java.util.NoSuchElementException;

/** Counts answers that are not as due, and feeds texts to objects. */
final class Check {
    private static final int SHOWN = 40;
    private int wrong = 0;
    private int asked = 0;

    void due(String call, long got, long want) {
        that(call, got == want, "answered " + got + ", due is " + want);
    }

    void due(String call, boolean got, boolean want) {
        that(call, got == want, "answered " + got + ", due is " + want);
    }

    void that(String call, boolean holds, String otherwise) {
        asked++;
        if (!holds) {
            wrong++;
            if (wrong <= SHOWN) {
                System.out.println(call + ": " + otherwise);
            }
        }
    }

    void noPlace(HoldTwo game, int place) {
        boolean thrown = false;
        try {
            game.at(place);
        } catch (NoSuchElementException e) {
            thrown = true;
        }
        that("at(" + place + ")", thrown, "should throw NoSuchElementException");
    }

    /** The tape has this text alone. */
    static void tape(HoldTwo game, String text) {
        game.end(0);
        for (int i = 0; i < text.length(); i += 20) {
            game.feed(word(text, i), word(text, i + 4), word(text, i + 8), word(text, i + 12), word(text, i + 16));
        }
    }

    static int word(String text, int from) {
        int word = 0;
        for (int i = from; i < from + 4; i++) {
            word = word << 8 | (i < text.length() ? text.charAt(i) & 255 : 0);
        }
        return word;
    }

    static int text(HoldTwo game, int sort, String text) {
        tape(game, text);
        return game.text(sort);
    }

    static int fault(HoldTwo game, int sort, String text) {
        tape(game, text);
        return game.fault(sort);
    }

    void finish() {
        System.out.println(asked + " answers asked, " + wrong + " wrong");
        if (wrong != 0) {
            System.exit(1);
        }
    }
}
