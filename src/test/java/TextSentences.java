/** What the document says of texts: games, laws, lines. */
final class TextSentences {
    private static final int NONE = Said.NONE;
    private static final String WHOLE = "ab,ac,ad,ae,af,ag,ah,ai,bc,bd,be,bf,bg,bh,bi,cd,ce,cf,cg,ch,ci,de,df,dg,dh,di,"
        + "ef,eg,eh,ei,fg,fh,fi,gh,gi,hi";
    private final Said said;

    TextSentences(Said said) {
        this.said = said;
    }

    void ask() {
        said.in("Terms");
        partsOfGames();
        startOfGames();
        linksOfGames();
        goalsOfGames();
        rulesOfGames();
        faultsOfGames();
        faultsByName();
        clauses();
        conditions();
        sums();
        conditionsByTheirFirstSign();
        within();
        faultsOfLaws();
        bounds();
        worths();
        lines();
        movesOfLines();
        faultsOfLines();
        blanks();
    }

    private void partsOfGames() {
        said.that("A GAME is a TEXT: START ; LINKS, perhaps ; GOALS, perhaps ; RULES behind these.");
        said.good(0, "X.;ab", "X.;ab;/", "X.;ab;/;", "X.;ab;a/b;t");
        said.fault(0, "X.", 2);
        said.fault(0, "X.ab", 2);
        said.fault(0, "X.;ab;t", 6);
        said.fault(0, "X.;ab;;t", 6);
        said.fault(0, "X.;ab;/t", 7);
        said.fault(0, "X.;ab;/;;", 8);
        said.fault(0, "X.;ab;/;t;", 9);
        said.fault(0, "ab;X.", 0);
    }

    private void startOfGames() {
        said.that("START: a sign for each PLACE (2 .. 9; letters a .. i in this order): X, O or a dot (empty).");
        said.due("no place", Check.text(new HoldTwo(), 0, ";ab"), NONE);
        said.due("one place", Check.text(new HoldTwo(), 0, "X;ab"), NONE);
        said.due("two places", Check.text(new HoldTwo(), 0, "X.;ab"), 2);
        said.due("nine places", Check.text(new HoldTwo(), 0, ".........;ab"), 9);
        said.due("ten places", Check.text(new HoldTwo(), 0, "..........;ab"), NONE);
        for (String sign : new String[] {"x", "o", "0", "-", "/", ",", "\u00ff", "\u0001", "W", "Y", "N", "P"}) {
            said.fault(0, sign + ".;ab", 0);
            said.fault(0, "X" + sign + ";ab", 1);
            said.fault(0, "X." + sign + ";ab", 2);
        }
        HoldTwo game = said.game("XO......X;ah,ig");
        said.due("a", game.at(0), 1);
        said.due("b", game.at(1), 2);
        said.due("c", game.at(2), 0);
        said.due("i", game.at(8), 1);
        said.due("a to h", game.moves(0), 7);
        said.due("i to g", game.moves(1), 86);
    }

    private void linksOfGames() {
        said.that("LINKS: pairs of PLACES with , between, one at least: two letters, unlike, each pair once at most (either way).");
        said.fault(0, "X.;", 3);
        said.fault(0, "X.;;/", 3);
        said.fault(0, "X.;,ab", 3);
        said.good(0, "X.;ab", "X.;ba", "X.;ab;/", ".........;" + WHOLE, ".........;hi");
        said.due("all thirty-six", Check.text(new HoldTwo(), 0, ".........;" + WHOLE), 9);
        said.fault(0, ".........;" + WHOLE + ",ih", 119);
        said.fault(0, "X..;abbc", 6);
        said.fault(0, "X..;ab,,bc", 7);
        said.fault(0, "X..;ab,", 7);
        said.fault(0, "X..;ab,;", 7);
        said.fault(0, "X..;ab;bc", 9);
        said.fault(0, "X..;a,bc", 5);
        said.fault(0, "X..;bb", 5);
        said.fault(0, "X..;ab,ab", 8);
        said.fault(0, "X..;ab,ba", 8);
    }

    private void goalsOfGames() {
        said.that("GOALS: PLACES of X (none or more, each once), / , PLACES of O (likewise).");
        said.good(0, "X.;ab;/", "X.;ab;a/", "X.;ab;/a", "X.;ab;ba/ba", "X.;ab;ab/ab", ".........;ab;abcdefghi/ihgfedcba");
        said.fault(0, "X.;ab;", 6);
        said.fault(0, "X.;ab;a", 7);
        said.fault(0, "X.;ab;a,b/", 7);
        said.fault(0, "X.;ab;//", 7);
        said.fault(0, "X.;ab;aa/", 7);
        said.fault(0, "X.;ab;aba/", 8);
        said.fault(0, "X.;ab;/aa", 8);
        said.fault(0, "X.;ab;ab/bab", 11);
        said.fault(0, ".........;ab;abcdefghia/", 22);
        said.fault(0, ".........;ab;/abcdefghii", 23);
    }

    private void rulesOfGames() {
        said.that("RULES: none or more of t (TAKING), p (PASSING), n (NONE draws), each once at most.");
        for (String rules : new String[] {"", "t", "p", "n", "tp", "pt", "tn", "np", "tpn", "tnp", "ptn", "pnt", "ntp", "npt"}) {
            said.good(0, "X.;ab;/;" + rules);
        }
        said.fault(0, "X.;ab;/;tt", 9);
        said.fault(0, "X.;ab;/;pp", 9);
        said.fault(0, "X.;ab;/;nn", 9);
        said.fault(0, "X.;ab;/;tpt", 10);
        said.fault(0, "X.;ab;/;tpnp", 11);
        said.fault(0, "X.;ab;/;npta", 11);
        said.fault(0, "X.;ab;/;T", 8);
        said.fault(0, "X.;ab;/;t,p", 9);
        said.due("taking", said.game("XO;ab;/;t").moves(NONE), 1);
        said.due("passing", said.game("XO;ab;/;p").moves(0), 99);
        said.due("none draws", said.game("XO;ab;/;n").over(), 3);
        said.due("neither", said.game("XO;ab;/;").over(), 2);
    }

    private void faultsOfGames() {
        said.that("FAULT: the first byte at which no GAME can go on (the length, if it ends too early):");
        String text = "X.O;ab,bc;a/c;tp";
        for (int n = 0; n <= text.length(); n++) {
            boolean isWhole = n == 6 || n == 9 || n >= 12;
            said.fault(0, text.substring(0, n), isWhole ? NONE : n);
            said.fault(0, text.substring(0, n) + "  ", isWhole ? NONE : n + 2);
            said.fault(0, text.substring(0, n) + "#", n);
            said.fault(0, text.substring(0, n) + " #X", n + 1);
        }
        said.fault(0, "", 0);
        said.fault(0, "   ", 3);
    }

    private void faultsByName() {
        said.that("a tenth PLACE,");
        said.fault(0, ".........X;ab", 9);
        said.fault(0, "XXXXXXXXXX", 9);
        said.fault(0, ". . . . . . . . . O;ab", 18);
        said.fault(0, ".........", 9);
        said.that("a letter that is no PLACE's,");
        said.fault(0, "X.;ca", 3);
        said.fault(0, "X.;ac", 4);
        said.fault(0, "X.;Ab", 3);
        said.fault(0, "X.;a`", 4);
        said.fault(0, "X.;ab;c/", 6);
        said.fault(0, "X.;ab;a/c", 8);
        said.fault(0, "........;ai", 10);
        said.good(0, ".........;ai");
        said.fault(0, ".........;aj", 11);
        said.fault(0, ".........;ab;j/", 13);
        said.that("a second letter alike the first");
        said.fault(0, "X.;aa", 4);
        said.fault(0, "X.;bb,ab", 4);
        said.fault(0, "X..;ab,c c", 9);
        said.that("or of a pair that was there,");
        said.fault(0, "X.;ab,ab", 7);
        said.fault(0, "X.;ab,ba", 7);
        said.fault(0, "X..;ab,bc,ca,cb", 14);
        said.good(0, "X..;ab,ac,bc", "X..;ab,ca,cb");
        said.that("a GOAL,");
        said.fault(0, "X.;ab;bb/", 7);
        said.fault(0, "X.;ab;b/bb", 9);
        said.good(0, "X.;ab;b/b");
        said.that("a RULE that was there, at it;");
        said.fault(0, "X.;ab;/;t t", 10);
        said.fault(0, "X.;ab;/;npn", 10);
        said.that("the ; behind fewer than two PLACES at it.");
        said.fault(0, ";ab", 0);
        said.fault(0, "X;ab", 1);
        said.fault(0, " O ;ab", 3);
        said.good(0, "OO;ab");
    }

    private void clauses() {
        said.that("LAWS (4 at most) are TEXTS: CLAUSES with ; between, one at least: y, : , perhaps CONDITION ?, then SUM.");
        HoldTwo game = new HoldTwo();
        for (int i = 0; i < 4; i++) {
            said.due("law " + i, Check.text(game, 1, "y:" + i), i);
        }
        said.due("a fifth law", Check.text(game, 1, "y:4"), NONE);
        said.due("laws", game.count(1), 4);
        said.good(1, "y:1", "y:1;y:2", "y:a=1?2", "y:a=1?2;y:3;y:b=1?4", "y:1;".repeat(39) + "y:1");
        said.fault(1, "", 0);
        said.fault(1, ";y:1", 0);
        said.fault(1, "y:1;", 4);
        said.fault(1, "y:1;;y:1", 4);
        said.fault(1, "y:1y:1", 3);
        said.fault(1, "y:1,y:1", 3);
        said.fault(1, "y:1;".repeat(40), 160);
        said.fault(1, ":1", 0);
        said.fault(1, "x:1", 0);
        said.fault(1, "Y:1", 0);
        said.fault(1, "y1", 1);
        said.fault(1, "y", 1);
        said.fault(1, "y:", 2);
        said.fault(1, "y::1", 2);
        said.fault(1, "y:?1", 2);
        said.fault(1, "y:a?1", 3);
        said.fault(1, "y:a=1?", 6);
        said.fault(1, "y:a=1?;y:1", 6);
        said.fault(1, "y:a=1;y:1", 5);
        said.fault(1, "y:a=1?2?3", 7);
        said.fault(1, "y:a=1?b=1?3", 7);
    }

    private void conditions() {
        said.that("CONDITION: TRUTHS with | between; TRUTH: UNITS with & between; UNIT: ! UNIT, ( CONDITION ), or SUM, one of = < >, SUM.");
        said.fault(1, "y:|a=1?1", 2);
        said.fault(1, "y:a=1|?1", 6);
        said.fault(1, "y:a=1||a=1?1", 6);
        said.fault(1, "y:&a=1?1", 2);
        said.fault(1, "y:a=1&?1", 6);
        said.fault(1, "y:a=1&|a=1?1", 6);
        said.fault(1, "y:!?1", 3);
        said.fault(1, "y:!a?1", 4);
        said.fault(1, "y:()?1", 3);
        said.fault(1, "y:(a)?1", 4);
        said.fault(1, "y:(a=1?1", 6);
        said.fault(1, "y:(a=1))?1", 7);
        said.fault(1, "y:(a=1]?1", 6);
        said.fault(1, "y:(a=1)(b=1)?1", 7);
        said.fault(1, "y:(a=1)=1?1", 7);
        said.fault(1, "y:=1?1", 2);
        said.fault(1, "y:a=?1", 4);
        said.fault(1, "y:a==1?1", 4);
        said.fault(1, "y:a<=1?1", 4);
        said.fault(1, "y:a=1=1?1", 5);
        said.fault(1, "y:a=!1?1", 4);
        said.fault(1, "y:a=(1)?1", 4);
        holds("1=1", true);
        holds("1=2", false);
        holds("1<2", true);
        holds("1<1", false);
        holds("2<1", false);
        holds("2>1", true);
        holds("1>1", false);
        holds("1>2", false);
        holds("1=2|1=1", true);
        holds("1=2|1=3", false);
        holds("1=1|1=2", true);
        holds("1=1&1=2", false);
        holds("1=2&1=1", false);
        holds("1=1&2=2", true);
        holds("1=1|1=1&1=2", true);
        holds("(1=1|1=1)&1=2", false);
        holds("1=2&1=2|1=1", true);
        holds("1=2|1=2|1=1", true);
        holds("1=1&1=1&1=2", false);
        holds("!1=2", true);
        holds("!1=1", false);
        holds("!!1=1", true);
        holds("!1=1|1=1", true);
        holds("!(1=1|1=1)", false);
        holds("!1=2&1=2", false);
        holds("1+1=2", true);
        holds("4/2>3-2", true);
        holds("[1]=[2-1]", true);
        for (String unit : new String[] {"1=1", "1<2", "2>1", "(1=1)", "!1=2"}) {
            for (String other : new String[] {"1=1", "1<2", "2>1", "(1=1)", "!1=2"}) {
                holds(unit + "&" + other, true);
                holds(unit + "&!" + other, false);
                holds("!" + unit + "|" + other, true);
                holds("!" + unit + "|!" + other, false);
            }
        }
    }

    private void sums() {
        said.that("SUM: TERMS with + or - between; TERM: ATOMS with * or / between; ATOM: a number (1 to 4 digits), a letter (a b g h m e), [ SUM ].");
        said.good(1, "y:0", "y:9", "y:0000", "y:9999", "y:a+b-g*h/m+e", "y:[1]", "y:[[1]+2]*[3]");
        said.fault(1, "y:+1", 2);
        said.fault(1, "y:-1", 2);
        said.fault(1, "y:1+", 4);
        said.fault(1, "y:1+-1", 4);
        said.fault(1, "y:*1", 2);
        said.fault(1, "y:1*", 4);
        said.fault(1, "y:1*/1", 4);
        said.fault(1, "y:[]", 3);
        said.fault(1, "y:[1", 4);
        said.fault(1, "y:[1)", 4);
        said.fault(1, "y:1]", 3);
        said.fault(1, "y:[1=1]", 4);
        said.fault(1, "y:12345", 6);
        said.fault(1, "y:1a", 3);
        said.fault(1, "y:a1", 3);
        said.fault(1, "y:ab", 3);
        said.fault(1, "y:[1][1]", 5);
        for (char letter = 1; letter < 256; letter++) {
            boolean isAtom = "abghme".indexOf(letter) >= 0 || letter >= '0' && letter <= '9';
            boolean isOpen = "[!( ".indexOf(letter) >= 0;
            said.fault(1, "y:" + letter, isAtom ? NONE : isOpen ? 3 : 2);
        }
        sumIs("9999", 9999);
        sumIs("0012", 12);
        sumIs("1-2-3", -4);
        sumIs("1-[2-3]", 2);
        sumIs("8/4/2", 1);
        sumIs("8/[4/2]", 4);
        sumIs("2+3*4", 14);
        sumIs("2*3+4", 10);
        sumIs("[2+3]*4", 20);
        sumIs("7/2*2", 6);
        sumIs("7*2/2", 7);
        sumIs("9-8/4", 7);
    }

    private void conditionsByTheirFirstSign() {
        said.that("(A CLAUSE that goes on with ! or ( behind its : has a CONDITION.)");
        said.fault(1, "y:(1)", 4);
        said.fault(1, "y:(1)+2", 4);
        said.fault(1, "y:(a=1)", 7);
        said.fault(1, "y:(a=1);y:1", 7);
        said.fault(1, "y: (a=1)", 8);
        said.fault(1, "y:!1", 4);
        said.fault(1, "y:!a=1", 6);
        said.fault(1, "y:!a=1;y:1", 6);
        said.good(1, "y:(a=1)?1", "y:!a=1?1", "y:[a]", "y:[a]=1?1");
    }

    private void within() {
        said.that("At most six of ( [ ! within one another.");
        said.good(1, "y:[[[[[[1]]]]]]", "y:!!!!!!a=1?1", "y:((((((a=1))))))?1", "y:!(!(!(a=1)))?1", "y:!(!([[1]]=1))?1",
            "y:[1]+[1]+[1]+[1]+[1]+[1]+[1]+[1]", "y:!a=1&!a=1&!a=1&!a=1&!a=1&!a=1&!a=1?1", "y:(a=1)|(a=1)|(a=1)|(a=1)|(a=1)|(a=1)|(a=1)?1",
            "y:[[[[[[1]]]]]]=[[[[[[1]]]]]]?[[[[[[1]]]]]];y:[[[[[[1]]]]]]", "y:[[[[[[1]+[1]]]]]]", "y:((((((a=1)&(a=1))))))?1");
        said.fault(1, "y:[[[[[[[1]]]]]]]", 8);
        said.fault(1, "y:!!!!!!!a=1?1", 8);
        said.fault(1, "y:(((((((a=1)))))))?1", 8);
        said.fault(1, "y:!(!(!([1]=1)))?1", 8);
        said.fault(1, "y:!!!!!!(a=1)?1", 8);
        said.fault(1, "y:((((((!a=1))))))?1", 8);
        said.fault(1, "y:((((((1=[1]))))))?1", 10);
        said.fault(1, "y:[[[[[[1]+[[1]]]]]]]", 12);
        said.good(1, "y:!a=[[[[[1]]]]]?1", "y:![[[[[a]]]]]=[[[[[1]]]]]?1", "y:!a=1&[[[[[[1]]]]]]=1?1");
        said.fault(1, "y:!a=[[[[[[1]]]]]]?1", 10);
        said.fault(1, "y:![[[[[[a]]]]]]=1?1", 8);
        said.fault(1, "y:a=1&!(a=1|([[[[1]]]]=1))?1", 16);
        holds("!!!!!!1=1", true);
        holds("!(!(!(1=1)))", false);
        sumIs("[[[[[1]]]]]", 1);
    }

    private void faultsOfLaws() {
        said.that("FAULT likewise; a fifth digit, a seventh of these are such.");
        said.fault(1, "y:10000", 6);
        said.fault(1, "y:00001", 6);
        said.fault(1, "y:1+12345", 8);
        said.fault(1, "y:12345=1?1", 6);
        said.fault(1, "y:a=12345?1", 8);
        said.fault(1, "y:a=1?12345", 10);
        said.fault(1, "y:[[[[[[[", 8);
        said.fault(1, "y:a=1?[[[[[[[1]]]]]]]", 12);
        said.fault(1, "y:1;y:!!!!!!!a=1?1", 12);
        String text = "y:(a=1|!b<22)&[m]>e?[g-h]*3/a;y:1";
        for (int n = 0; n <= text.length(); n++) {
            String whole = text.substring(0, n);
            boolean isWhole = n == 29 || n == 27 || n == 25 || n == 33;
            said.fault(1, whole, isWhole ? NONE : n);
            said.fault(1, whole + "#", n);
            said.fault(1, whole + " ", isWhole ? NONE : n + 1);
        }
    }

    private void bounds() {
        said.that("Behind each sign numbers are within -1,000,000 .. 1,000,000;");
        sumIs("1000*1000", 1000000);
        sumIs("1000*1000+1", 1000000);
        sumIs("1000*1000+1-1", 999999);
        sumIs("1000*1001", 1000000);
        sumIs("999*1001", 999999);
        sumIs("1000*999+1000", 1000000);
        sumIs("9999*9999", 1000000);
        sumIs("9999*9999*9999*9999/2", 500000);
        sumIs("1000*1000*[1000*1000]/1000", 1000);
        sumIs("0-1000*1000", -1000000);
        sumIs("0-1000*1000-1", -1000000);
        sumIs("0-1000*1000-1+1", -999999);
        sumIs("[0-9999]*9999", -1000000);
        sumIs("[0-1000]*1001+2000", -998000);
        sumIs("[0-1000*1000]-1000*1000", -1000000);
        sumIs("[0-1000*1000]/[0-1]", 1000000);
        sumIs("1000*1000/1", 1000000);
        said.that("/ cuts towards 0, by 0 gives 0.");
        sumIs("7/2", 3);
        sumIs("[0-7]/2", -3);
        sumIs("7/[0-2]", -3);
        sumIs("[0-7]/[0-2]", 3);
        sumIs("1/2", 0);
        sumIs("[0-1]/2", 0);
        sumIs("6/3", 2);
        sumIs("7/0", 0);
        sumIs("[0-7]/0", 0);
        sumIs("0/0", 0);
        sumIs("5+7/[2-2]", 5);
        sumIs("1000*1000/0", 0);
    }

    private void worths() {
        said.that("WORTH: the SUM of the first CLAUSE whose CONDITION holds (or has none), 0 without.");
        winner("y:1=1?1;y:1=1?0-1", 1);
        winner("y:1=2?1;y:1=1?0-1", 2);
        winner("y:1=2?1;y:0-1", 2);
        winner("y:1;y:0-1", 1);
        winner("y:0;y:1", 0);
        winner("y:1=1?0;y:1", 0);
        winner("y:1=2?1", 0);
        winner("y:1=2?1;y:1=3?1", 0);
        winner("y:1=2?0-1;y:1=3?0-1;y:1=1?1", 1);
        HoldTwo game = said.game("X.O;ab,bc;/;p");
        said.due("a longer one is asked for its fault", Check.fault(game, 1, "y:1=2?1;y:1=2?1;y:1"), NONE);
        said.due("text(1)", Check.text(game, 1, "y:1=2?1"), 0);
        said.due("law(0,0)", game.law(0, 0), true);
        said.due("a move is made", game.hold(1, 99, 0), 1);
        said.due("0 without", game.over(), 0);
    }

    /** Whom a law gives the win behind X's first move: 1 X, 2 O, 0 nobody. */
    private void winner(String law, int want) {
        HoldTwo game = said.game("X.O;ab,bc;/;p", law);
        said.due("a move is made", game.hold(1, 99, 1), 1);
        said.due("over() by " + law, game.over(), want);
    }

    private void holds(String condition, boolean want) {
        winner("y:" + condition + "?1;y:0-1", want ? 1 : 2);
    }

    private void sumIs(String sum, int want) {
        int size = Math.abs(want);
        String number = size > 9999 ? size / 1000 + "*1000+" + size % 1000 : "" + size;
        winner("y:" + sum + "=" + (want < 0 ? "0-[" + number + "]" : number) + "?1;y:0-1", 1);
    }

    private void lines() {
        said.that("LINES are TEXTS: TURNS with ; between, one at least (30 at most): a MOVE, or two with , between and then 1 or 2 (which is picked).");
        said.good(2, "ab", "-", "ab,cd1", "ab,cd2", "-,-1", "ab;cd", "-;".repeat(29) + "-", "ab,-1;-,ab2;-");
        said.fault(2, "", 0);
        said.fault(2, ";ab", 0);
        said.fault(2, "ab;", 3);
        said.fault(2, "ab;;cd", 3);
        said.fault(2, "abcd", 2);
        said.fault(2, "--", 1);
        said.fault(2, ",ab1", 0);
        said.fault(2, "ab,", 3);
        said.fault(2, "ab,1", 3);
        said.fault(2, "ab,cd", 5);
        said.fault(2, "ab,cd;ef", 5);
        said.fault(2, "ab,cd0", 5);
        said.fault(2, "ab,cd3", 5);
        said.fault(2, "ab,cd12", 6);
        said.fault(2, "ab,cd1,ef", 6);
        said.fault(2, "ab,cd,ef1", 5);
        said.fault(2, "ab1", 2);
        said.fault(2, "1ab,cd", 0);
        HoldTwo game = said.game("X..;ab,ac;/;p");
        said.due("one turn", Check.text(game, 2, "ab,ac1"), 1);
        said.due("the first is picked", game.judge(2), 2 * 3 + 1);
        said.due("one turn", Check.text(game, 2, "ab,ac2"), 1);
        said.due("the second is picked", game.judge(2), 2 * 9 + 1);
        said.due("thirty turns", Check.text(game, 2, "ab,-1;-;".repeat(15).substring(0, 119)), 30);
        said.due("thirty-one turns", Check.text(game, 2, "-;".repeat(30) + "-"), NONE);
    }

    private void movesOfLines() {
        said.that("A MOVE: two PLACES' letters a .. i, or - (PASS).");
        said.good(2, "ai", "ia", "ii", "aa", "-");
        said.fault(2, "a", 1);
        said.fault(2, "aj", 1);
        said.fault(2, "ja", 0);
        said.fault(2, "A", 0);
        said.fault(2, "`a", 0);
        said.fault(2, "a-", 1);
        said.fault(2, "-a", 1);
        said.fault(2, "ab,c1", 4);
        said.fault(2, "ab,jc1", 3);
        said.fault(2, "99", 0);
        HoldTwo game = said.game("X.;ab");
        said.due("letters of no place of this game", Check.text(game, 2, "hi"), 1);
    }

    private void faultsOfLines() {
        said.that("FAULT likewise (the ; ahead of a thirty-first TURN).");
        said.fault(2, "-;".repeat(30), 59);
        said.fault(2, "-;".repeat(30) + "-", 59);
        said.fault(2, "-;".repeat(31) + "ab", 59);
        said.fault(2, "-;".repeat(29) + "- ;ab", 60);
        said.fault(2, "-;".repeat(29) + "ab,cd2;ab", 64);
        said.fault(2, "-;".repeat(29), 58);
        said.good(2, "-;".repeat(28) + "-", "-;".repeat(29) + "-", "-;".repeat(29) + "-  ");
        String text = "ab,cd1;-;ef";
        for (int n = 0; n <= text.length(); n++) {
            boolean isWhole = n == 2 || n == 6 || n == 8 || n == 11;
            said.fault(2, text.substring(0, n), isWhole ? NONE : n);
            said.fault(2, text.substring(0, n) + "#", n);
        }
    }

    private void blanks() {
        said.that("In all TEXTS blanks (32) may stand between all signs.");
        String[] texts = {"X.O;ab,bc;a/c;tpn", "y:(a=1|!b<22)&[m]>e?[g-h]*3/a;y:1234", "ab,cd1;-;ef,-2"};
        for (int sort = 0; sort < 3; sort++) {
            String text = texts[sort];
            said.good(sort, text, " " + text.replace("", " ") + " ", text.replace("", "  "));
            for (int i = 0; i <= text.length(); i++) {
                said.good(sort, text.substring(0, i) + " " + text.substring(i));
                for (String sign : new String[] {"\t", "\n", "\u001f", "!#", "_", "\u00a0"}) {
                    if (!(sort == 1 && sign.startsWith("!"))) {
                        said.fault(sort, text.substring(0, i) + sign + text.substring(i), i);
                    }
                }
            }
            said.fault(sort, " ".repeat(160), 160);
        }
        said.good(0, "X.;ab" + " ".repeat(155), " ".repeat(155) + "X.;ab");
        said.due("nothing of blanks is left in it", Check.text(new HoldTwo(), 0, " X . ; a b "), 2);
        winner(" y : 1 = 1 ? 1 ", 1);
        winner("y:1 0=10?1;y:0-1", 1);
        said.fault(1, "y:1 2 3 4 5", 10);
    }
}
