import java.util.ArrayList;
import java.util.Collections;
import java.util.List;
import java.util.Random;

/** Random texts, most of them without a fault. */
final class Texts {
    private final Random random;

    Texts(Random random) {
        this.random = random;
    }

    private boolean chance(int of) {
        return random.nextInt(of) == 0;
    }

    private char sign(String signs) {
        return signs.charAt(random.nextInt(signs.length()));
    }

    String game(int most) {
        int places = 2 + random.nextInt(most - 1);
        StringBuilder text = new StringBuilder();
        for (int i = 0; i < places; i++) {
            text.append(sign("XO.."));
        }
        List<String> pairs = new ArrayList<>();
        for (int i = 0; i < places; i++) {
            for (int j = 0; j < i; j++) {
                String one = (char) ('a' + i) + "";
                String other = (char) ('a' + j) + "";
                pairs.add(random.nextBoolean() ? one + other : other + one);
            }
        }
        Collections.shuffle(pairs, random);
        int links = chance(4) ? pairs.size() : 1 + random.nextInt(pairs.size());
        text.append(';').append(String.join(",", pairs.subList(0, Math.min(links, 30))));
        if (!chance(4)) {
            text.append(';').append(some(places)).append('/').append(some(places));
            if (!chance(4)) {
                text.append(';');
                List<String> rules = new ArrayList<>(List.of("t", "p", "n"));
                Collections.shuffle(rules, random);
                for (String rule : rules) {
                    text.append(chance(2) ? rule : "");
                }
            }
        }
        return text.toString();
    }

    private String some(int places) {
        List<String> letters = new ArrayList<>();
        for (int i = 0; i < places; i++) {
            if (chance(3)) {
                letters.add((char) ('a' + i) + "");
            }
        }
        Collections.shuffle(letters, random);
        return String.join("", letters);
    }

    String law() {
        if (chance(3)) {
            String[] known = {"y:g", "y:g-h", "y:g>1?1;y:h>1?0-1", "y:b=0?1", "y:m=0?5", "y:a<b?0-1;y:a>b?1;y:0",
                "y:!m>1?1", "y:(e=1|g=2)&!b>2?a-b", "y:g>0&m<2?9999*9999*9999", "y:0-[a-b]*[g-h]/[m-2]", "y:e/0-m+2"};
            return known[random.nextInt(known.length)];
        }
        StringBuilder text = new StringBuilder();
        int clauses = 1 + random.nextInt(3);
        for (int i = 0; i < clauses; i++) {
            text.append(i > 0 ? ";" : "").append("y:");
            if (!chance(3)) {
                condition(text, 0);
                text.append('?');
            }
            sum(text, 0);
        }
        return text.toString();
    }

    private void condition(StringBuilder text, int depth) {
        int kind = random.nextInt(6);
        if (kind == 0 && depth < 6) {
            text.append('!');
            if (chance(2)) {
                comparison(text, depth + 1);
            } else {
                condition(text, depth + 1);
            }
        } else if (kind == 1 && depth < 6) {
            text.append('(');
            condition(text, depth + 1);
            text.append(')');
        } else {
            comparison(text, depth);
        }
        if (chance(3)) {
            text.append(sign("&|"));
            condition(text, depth);
        }
    }

    private void comparison(StringBuilder text, int depth) {
        sum(text, depth);
        text.append(sign("=<>"));
        sum(text, depth);
    }

    private void sum(StringBuilder text, int depth) {
        int kind = random.nextInt(8);
        if (kind == 0 && depth < 7) {
            text.append('[');
            sum(text, depth + 1);
            text.append(']');
        } else if (kind < 3) {
            int digits = 1 + random.nextInt(chance(9) ? 5 : 1);
            for (int i = 0; i < digits; i++) {
                text.append(sign("0123456789"));
            }
        } else {
            text.append(sign("abghme"));
        }
        if (chance(3)) {
            text.append(sign("+-*/"));
            sum(text, depth);
        }
    }

    /** A line along the moves of a game at its start, with wrong turns here and there. */
    String line(Told told) {
        StringBuilder text = new StringBuilder();
        int turns = 1 + random.nextInt(chance(6) ? 33 : 9);
        for (int i = 0; i < turns; i++) {
            int count = told.moves(-1);
            text.append(i > 0 ? ";" : "");
            int one = count > 0 ? told.moves(random.nextInt(count)) : random.nextInt(90);
            int other = count > 0 ? told.moves(random.nextInt(count)) : random.nextInt(90);
            if (chance(20)) {
                one = 10 * random.nextInt(9) + random.nextInt(9);
            }
            for (int k = 0; k < 20 && other == one; k++) {
                other = count > 0 ? told.moves(random.nextInt(count)) : 0;
            }
            boolean alone = count == 1 || chance(30);
            int pick = random.nextInt(2);
            text.append(move(one));
            if (!alone) {
                text.append(',').append(move(other)).append(pick + 1);
            }
            told.hold(one, alone ? -1 : other, alone ? 0 : pick);
        }
        return text.toString();
    }

    private static String move(int code) {
        return code == 99 ? "-" : (char) ('a' + code / 10) + "" + (char) ('a' + code % 10);
    }

    /** Now and then blanks are put in, and signs put in, changed or taken out. */
    String spoilt(String text) {
        StringBuilder signs = new StringBuilder(text);
        if (chance(3)) {
            for (int i = random.nextInt(6); i >= 0; i--) {
                signs.insert(random.nextInt(signs.length() + 1), ' ');
            }
        }
        if (chance(4) && signs.length() > 0) {
            String others = "XO.;,/abcdefghijtpny:?!()[]|&=<>+-*0123456789-~ ";
            for (int i = random.nextInt(2); i >= 0; i--) {
                int place = random.nextInt(signs.length());
                switch (random.nextInt(4)) {
                    case 0:
                        signs.insert(place, sign(others));
                        break;
                    case 1:
                        signs.setCharAt(place, chance(9) ? (char) (128 + random.nextInt(128)) : sign(others));
                        break;
                    case 2:
                        signs.setLength(place + 1);
                        break;
                    default:
                        signs.setCharAt(place, signs.charAt(random.nextInt(signs.length())));
                        break;
                }
            }
        }
        return signs.length() > 160 ? signs.substring(0, 160) : signs.toString();
    }
}
