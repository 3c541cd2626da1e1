/** For each promise of the document what is due, worked out by hand: ordinary inputs, edges, wrong inputs. */
public final class PromiseTests {
    private static final int NONE = WhoKnows.NONE;
    private static final int COMMON = WhoKnows.COMMON;

    /**
     * Worlds 1 to 7 are left (a is 1, b is 2, c is 4) and REAL is 3. Alike are for x 1, 2 3, 4 5, 6 7; for y 1 3, 2,
     * 4 6, 5 7; for z 1 5, 2 6, 3 7, 4.
     */
    private static final String MUDDY =
            "facts a b c;law a or b or c;person x b c;person y a c;person z a b;real a b";
    /** Worlds 0 to 3 are left, REAL is 1. Alike are for p 0 2, 1 3; for q 0 1, 2 3. */
    private static final String PAIR = "facts a b;person p a;person q b;real a";

    private PromiseTests() {
    }

    public static void main(String[] args) {
        newObject();
        append();
        truncate();
        readText();
        readTextMisplaced();
        readTextMisnamed();
        readTextTooMany();
        readTextNoWorld();
        readTextBeginsAnew();
        runOrders();
        runOrdersErrors();
        ask();
        askErrors();
        errorCodeAndPosition();
        size();
        letter();
        seesAndWorlds();
        alike();
        kindsAndDoubts();
        reachAndSteps();
        holdsAndTruth();
        whoAndWhether();
        isCommonLevelUnlike();
        knowsFactAndKnowers();
        wouldLeaveAndWouldSay();
        wouldKnow();
        roundsTo();
        bestFact();
        leastShown();
        log();
        account();
        gapShareMean();
        announce();
        say();
        whisper();
        show();
        round();
        writeWorld();
        writeKinds();
        writeQuestion();
        outputByte();
        undo();
        saveAndRestore();
        Check.end("PromiseTests");
    }

    private static WhoKnows asked(String description, String question) {
        WhoKnows x = Check.told(description);
        Object answer = Check.ask(x, question);
        if (!(answer instanceof Integer)) {
            Check.same("ask of " + question, answer, "a number");
        }
        return x;
    }

    private static void newObject() {
        WhoKnows x = new WhoKnows();
        int[] sizes = {1, 1, 2, 2, 0, 1, 0, 0, 0, 0};
        for (int what = 0; what < sizes.length; what++) {
            Check.same("new: size(" + what + ")", x.size(what), sizes[what]);
        }
        Check.same("new: fact", x.letter(false, 0, 0), (int) 'a');
        Check.same("new: person", x.letter(true, 0, 0), (int) 'p');
        Check.same("new: fact's second letter", x.letter(false, 0, 1), NONE);
        Check.same("new: sees(0)", x.sees(0), 0);
        Check.same("new: worlds()", x.worlds(), 3);
        Check.same("new: alike(0, 0)", x.alike(0, 0), 3);
        Check.same("new: truth()", x.truth(), 2);
        Check.same("new: outputByte(0)", x.outputByte(0), NONE);
        Check.same("new: errorCode()", x.errorCode(), 0);
        Check.same("new: errorPosition()", x.errorPosition(), NONE);
        Check.same("new: undo()", x.undo(), NONE);
        Check.argument("new: truncate(1)", () -> x.truncate(1));
        Check.state("new: restore()", x::restore);
        for (int what = 0; what <= 6; what++) {
            Check.same("new: account(" + what + ")", x.account(what), 0);
        }
    }

    private static void append() {
        WhoKnows x = new WhoKnows();
        // "facts a b;person q a" letter by letter, so that the order of the bytes counts.
        Check.same("append", x.append(0x66616374, 0x73206120, 0x623b7065, 0x72736f6e, 0x20712061), 20);
        Check.same("readText", x.readText(), 4);
        Check.same("sees", x.sees(0), 1);
        Check.same("letter", x.letter(true, 0, 0), (int) 'q');
        for (int length = 20; length <= 600; length += 20) {
            Check.same("append to " + length, x.append(-1, 0, 0, 0, 0), length);
        }
        Check.state("append to 620", () -> x.append(0, 0, 0, 0, 0));
        Check.same("the length stays", x.truncate(600), 600);
        x.truncate(581);
        Check.state("append to 601", () -> x.append(0, 0, 0, 0, 0));
        x.truncate(580);
        Check.same("append to 600", x.append(0, 0, 0, 0, 0), 600);
        Check.argument("a byte 255", x::readText);
        Check.error("a byte 255", x, 1, 0);
    }

    private static void truncate() {
        WhoKnows x = new WhoKnows();
        Check.argument("truncate(-1)", () -> x.truncate(-1));
        Check.argument("truncate of the least number", () -> x.truncate(Integer.MIN_VALUE));
        Check.same("truncate(0)", x.truncate(0), 0);
        Check.put(x, "facts a;person p;person q and what is cut");
        Check.argument("truncate to more", () -> x.truncate(42));
        Check.same("truncate to the same", x.truncate(41), 41);
        Check.same("truncate to less", x.truncate(25), 25);
        Check.argument("truncate to what it was", () -> x.truncate(26));
        Check.same("readText of what is left", x.readText(), 2);
        Check.same("persons", x.size(1), 2);
        Check.argument("the buffer is empty", () -> x.truncate(1));
        Check.put(x, "facts ab;person pq");
        x.truncate(17);
        x.readText();
        Check.same("a word that was cut", x.letter(true, 0, 1), NONE);
        Check.put(x, "facts ab;person p b");
        x.truncate(7);
        Check.argument("what was cut is not read", x::readText);
        Check.error("what was cut is not read", x, 1, 7);
    }

    private static void readText() {
        WhoKnows x = Check.told(MUDDY);
        Check.same("worlds", x.worlds(), 254);
        Check.same("real", x.size(4), 3);
        Check.same("laws", x.size(7), 1);
        WhoKnows y = new WhoKnows();
        Check.same("spaces", Check.read(y, "  facts  a  b ;  law(a or b)  ;person p ;person q a;real  b  "), 3);
        Check.same("spaces: real", y.size(4), 2);
        Check.same("spaces: sees(1)", y.sees(1), 1);
        Check.same("five of all", Check.read(y, "facts a b c d e;person a a;person b;person c;person d;person e"), 32);
        Check.same("five of all: worlds", y.worlds(), -1);
        Check.same("words that are names", Check.read(y, "facts facts law real;person person law;real real"), 8);
        Check.same("words that are names: sees", y.sees(0), 2);
        Check.same("words that are names: real", y.size(4), 4);
        Check.same("the lowest world is real", Check.read(y, "facts a b;law b;person p"), 2);
        Check.same("the lowest world", y.size(4), 2);
        Check.same("real with none", Check.read(y, "facts a b;person p;real"), 4);
        Check.same("real with none: real", y.size(4), 0);
        Check.same("six laws", Check.read(y, "facts a b" + Check.times(";law a", 6) + ";person p"), 2);
        Check.same("six laws: laws", y.size(7), 6);
        Check.same("60 nodes", Check.read(y, "facts a;law " + Check.times("not ", 59) + "a;person p"), 1);
        Check.same("eight parentheses", Check.read(y, "facts a;law ((((((((a))))))));person p"), 1);
        Check.same("six letters", Check.read(y, "facts abcdef;person zyxwvu abcdef"), 2);
        Check.same("and binds more than or", Check.read(y, "facts a b c;law a or b and c;person p"), 5);
        Check.same("and binds more than or: worlds", y.worlds(), 0xEA);
        Check.same("not binds most", Check.read(y, "facts a b;law not a and b;person p"), 1);
        Check.same("not of parentheses", Check.read(y, "facts a b;law not(a and b);person p"), 3);
    }

    private static void readTextMisplaced() {
        Check.badText("", 1, 0);
        Check.badText("   ", 1, 3);
        Check.badText("fact a;person p", 1, 0);
        Check.badText("factss a;person p", 1, 0);
        Check.badText("facts", 1, 5);
        Check.badText("facts;person p", 1, 5);
        Check.badText("facts a", 1, 7);
        Check.badText("facts a;", 1, 8);
        Check.badText("facts a;  ", 1, 10);
        Check.badText("facts a;real", 1, 8);
        Check.badText("facts a;;person p", 1, 8);
        Check.badText("facts a;person", 1, 14);
        Check.badText("facts a;person p;", 1, 17);
        Check.badText("facts a;person p;law a", 1, 17);
        Check.badText("facts a;person p;facts a", 1, 17);
        Check.badText("facts a;person p;real;", 1, 21);
        Check.badText("facts a;person p;real;person q", 1, 21);
        Check.badText("facts a;person p;real and", 1, 22);
        Check.badText("facts a;person p;person", 1, 23);
        Check.badText("facts a;person knows", 1, 15);
        Check.badText("facts seventh;person p", 1, 6);
        Check.badText("facts a seventh;person p", 1, 8);
        Check.badText("facts a;person seventh", 1, 15);
        Check.badText("facts a;person p seventh", 1, 17);
        Check.badText("facts a;law seventh;person p", 1, 12);
        for (String word : new String[] {"not", "and", "or", "knows", "maybe", "all", "common", "that"}) {
            Check.badText("facts " + word + ";person p", 1, 6);
            Check.badText("facts a " + word + ";person p", 1, 8);
            Check.badText("facts a;person " + word, 1, 15);
            Check.badText("facts a;person p " + word, 1, 17);
        }
        for (String word : new String[] {"knows p", "maybe p", "all", "common"}) {
            Check.badText("facts a;law " + word + " a;person p", 1, 12);
            Check.badText("facts a;law not " + word + " a;person p", 1, 16);
        }
        Check.badText("facts a;law ;person p", 1, 12);
        Check.badText("facts a;law a", 1, 13);
        Check.badText("facts a;law a a;person p", 1, 14);
        Check.badText("facts a;law a and;person p", 1, 17);
        Check.badText("facts a;law or a;person p", 1, 12);
        Check.badText("facts a;law (a;person p", 1, 14);
        Check.badText("facts a;law a);person p", 1, 13);
        Check.badText("facts a;law ();person p", 1, 13);
        Check.badText("facts a;law (a", 1, 14);
        Check.badText("facts a;law (((((((((a)))))))));person p", 1, 20);
        Check.badText("facts A;person p", 1, 6);
        Check.badText("facts aB;person p", 1, 7);
        Check.badText("facts a`;person p", 1, 7);
        Check.badText("facts a{;person p", 1, 7);
        Check.badText("facts a\t;person p", 1, 7);
        Check.badText("facts a\0;person p", 1, 7);
        Check.badText("facts a;person p a+", 1, 18);
        Check.badText("facts a(b);person p", 1, 7);
        Check.badText("facts a;person p\u00e1", 1, 16);
    }

    private static void readTextMisnamed() {
        Check.badText("facts a b a;person p", 2, 10);
        Check.badText("facts a a;person p", 2, 8);
        Check.badText("facts a;person p;person p", 2, 24);
        Check.badText("facts a;person p;person q;person p a", 2, 33);
        Check.badText("facts a;person p b", 2, 17);
        Check.badText("facts a;person p p", 2, 17);
        Check.badText("facts a;person p a a", 2, 19);
        Check.badText("facts a;person p;real b", 2, 22);
        Check.badText("facts a;person p;real a a", 2, 24);
        Check.badText("facts a;law b;person p", 2, 12);
        Check.badText("facts a;law not p;person p", 2, 16);
        Check.badText("facts ab;law a;person p", 2, 13);
        Check.badText("facts a;law ab;person p", 2, 12);
    }

    private static void readTextTooMany() {
        Check.badText("facts a b c d e f;person p", 3, 16);
        Check.badText("facts a b c d e a;person p", 2, 16);
        Check.badText("facts a b c d e not;person p", 1, 16);
        Check.badText("facts a b c d e seventh;person p", 1, 16);
        Check.badText("facts a" + Check.times(";law a", 7) + ";person p", 3, 44);
        Check.badText("facts a" + Check.times(";law a", 6) + "; law", 3, 45);
        Check.badText("facts a;person p;person q;person r;person s;person t;person u", 3, 53);
        Check.badText("facts a;person p;person q;person r;person s;person t; person p", 3, 54);
        Check.badText("facts a;law " + Check.times("not ", 60) + "a;person p", 3, 252);
        Check.badText("facts a;law " + Check.times("not ", 60) + "b;person p", 2, 252);
        Check.badText("facts a;law " + Check.times("not ", 60) + "or;person p", 1, 252);
        Check.badText("facts a;law " + Check.times("not ", 60) + "not a;person p", 3, 252);
        Check.badText("facts a;law " + Check.times("not ", 60) + "all a;person p", 1, 252);
        Check.badText("facts a;law " + Check.times("not ", 59) + "a and a;person p", 3, 250);
        Check.badText("facts a;law " + Check.times("not ", 59) + "a or a;person p", 3, 250);
    }

    private static void readTextNoWorld() {
        Check.badText("facts a;law a and not a;person p", 4, 8);
        Check.badText("facts a;law a;law not a;person p", 4, 14);
        Check.badText("facts a; law a and not a ;person p", 4, 9);
        Check.badText("facts a;law a and not a", 4, 8);
        Check.badText("facts a;law a and not a x", 4, 8);
        Check.badText("facts a;law a and not a)", 4, 8);
        Check.badText("facts a;law a and not a and", 1, 27);
        Check.badText("facts a;law a and not a;person p p", 4, 8);
        Check.badText("facts a;law a;person p;real", 4, 23);
        Check.badText("facts a;law a;person p;real;", 4, 23);
        Check.badText("facts a;law a;person p;real+", 4, 23);
        Check.badText("facts a b;law a;person p; real b", 4, 26);
        Check.badText("facts a b;law a;person p;real b c", 2, 32);
    }

    private static void readTextBeginsAnew() {
        WhoKnows x = asked(PAIR, "knows p a");
        x.save();
        x.announce();
        x.writeQuestion();
        Check.same("an error throws", Check.read(x, "facts b;person q;"), "throws.IllegalArgumentException");
        Check.argument("an error empties the buffer", () -> x.truncate(1));
        Check.same("an error leaves the worlds", x.worlds(), 10);
        Check.same("an error leaves the names", x.letter(true, 1, 0), (int) 'q');
        Check.same("an error leaves QUESTION", x.size(5), 2);
        Check.same("an error leaves the LOG", x.size(8), 1);
        Check.same("an error leaves the changes", x.size(9), 2);
        Check.same("an error leaves the output", Check.output(x), "knows p a");
        Check.same("anew", Check.read(x, "facts c d e;person r c;person s"), 8);
        int[] sizes = {3, 2, 8, 8, 0, 1, 0, 0, 0, 0};
        for (int what = 0; what < sizes.length; what++) {
            Check.same("anew: size(" + what + ")", x.size(what), sizes[what]);
        }
        for (int what = 0; what <= 6; what++) {
            Check.same("anew: account(" + what + ")", x.account(what), 0);
        }
        Check.same("anew: truth()", x.truth(), 0xAA);
        Check.same("anew: log(0, 0)", x.log(0, 0), NONE);
        Check.same("anew: undo()", x.undo(), NONE);
        Check.same("anew: the output stays", Check.output(x), "knows p a");
        Check.same("anew: what was saved stays", x.restore(), 4);
        Check.same("restored: facts", x.size(0), 2);
        // Nothing is left of persons that there are no more.
        Check.read(x, MUDDY);
        Check.read(x, "facts a b;person p a b");
        Check.same("fewer persons: knowers()", x.knowers(), 1);
        Check.same("fewer persons: reach(0)", x.reach(0), 1);
        Check.same("fewer persons: meanAlike()", x.meanAlike(), 1.0);
        Check.same("fewer persons: round(0)", x.round(0), 1);
    }

    private static void runOrders() {
        WhoKnows x = Check.told(PAIR);
        Check.same("no orders", Check.run(x, ""), 0);
        Check.same("no orders, spaces", Check.run(x, "   "), 0);
        Check.same("each is a change", x.size(9), 2);
        Object done = Check.run(x, " announce a or b ; say p a;whisper p q that b;show q a;round b;");
        Check.same("five orders", done, 5);
        Check.same("they are one change", x.size(9), 3);
        Check.same("worlds", x.worlds(), 10);
        int[] accounts = {1, 1, 1, 1, 1, 2, 1};
        for (int what = 0; what < accounts.length; what++) {
            Check.same("account(" + what + ")", x.account(what), accounts[what]);
        }
        int[][] acts = {{4, 0, 0}, {3, 2, 0}, {2, 3, 0}, {1, 1, 4}, {0, 0, 1}, {NONE, NONE, NONE}};
        for (int index = 0; index < acts.length; index++) {
            for (int what = 0; what <= 2; what++) {
                Check.same("log(" + index + ", " + what + ")", x.log(index, what), acts[index][what]);
            }
        }
        Check.same("undo of all", x.undo(), 2);
        Check.same("worlds are back", x.worlds(), 15);
        Check.same("the LOG is back", x.size(8), 0);
        Check.same("a lie ends the orders", Check.run(x, "announce a;announce b;round a;"), 1);
        Check.same("those ahead stay done", x.worlds(), 10);
        Check.same("none behind is done", x.account(4), 0);
        Check.same("a lie first", Check.run(x, "announce b;announce a;"), 0);
        Check.same("it is a change still", x.size(9), 4);
        Check.same("QUESTION stays", x.size(5), 1);
        WhoKnows unknown = Check.told(PAIR);
        Check.same("what is not known ends them", Check.run(unknown, "show p b;say q a;round a;"), 1);
        Check.same("no saying", unknown.account(1), 0);
        Check.same("no round behind it", unknown.account(4), 0);
        Check.argument("the buffer is empty", () -> x.truncate(1));
        Check.same("twenty", Check.run(x, Check.times("round a;", 20)), 20);
        Check.same("a person twice in a formula", Check.run(x, "say p knows p knows p a;"), 1);
        // The rounds are asked one after the other, each as it is then.
        WhoKnows y = Check.told(MUDDY);
        Check.same("muddy", Check.run(y, "round a;round b;round c;"), 3);
        // 1 goes for a; then 2 for b, since y knows b there, and 3 stays with x, z, where 1 is gone, for y too.
        Check.same("muddy: first ruled out", y.log(2, 2), 2);
    }

    private static void runOrdersErrors() {
        Check.badOrders(PAIR, "announce a", 1, 10);
        Check.badOrders(PAIR, "announce;", 1, 8);
        Check.badOrders(PAIR, "announc a;", 1, 0);
        Check.badOrders(PAIR, "announces a;", 1, 0);
        Check.badOrders(PAIR, "a;", 1, 0);
        Check.badOrders(PAIR, ";", 1, 0);
        Check.badOrders(PAIR, "round a;;", 1, 8);
        Check.badOrders(PAIR, "law a;", 1, 0);
        Check.badOrders(PAIR, "say;", 1, 3);
        Check.badOrders(PAIR, "say a a;", 2, 4);
        Check.badOrders(PAIR, "say p;", 1, 5);
        Check.badOrders(PAIR, "say p c;", 2, 6);
        Check.badOrders(PAIR, "say p that a;", 1, 6);
        Check.badOrders(PAIR, "say all a;", 1, 4);
        Check.badOrders(PAIR, "whisper;", 1, 7);
        Check.badOrders(PAIR, "whisper that a;", 1, 8);
        Check.badOrders(PAIR, "whisper not a;", 1, 8);
        Check.badOrders(PAIR, "whisper p p that a;", 2, 10);
        Check.badOrders(PAIR, "whisper p q p that a;", 2, 12);
        Check.badOrders(PAIR, "whisper p a that a;", 2, 10);
        Check.badOrders(PAIR, "whisper p;", 1, 9);
        Check.badOrders(PAIR, "whisper p not a;", 1, 10);
        Check.badOrders(PAIR, "whisper p seventh;", 1, 10);
        Check.badOrders(PAIR, "whisper p that;", 1, 14);
        Check.badOrders(PAIR, "show p;", 1, 6);
        Check.badOrders(PAIR, "show p q;", 2, 7);
        Check.badOrders(PAIR, "show a a;", 2, 5);
        Check.badOrders(PAIR, "show p a b;", 1, 9);
        Check.badOrders(PAIR, "show p not a;", 1, 7);
        Check.badOrders(PAIR, "round;", 1, 5);
        Check.badOrders(PAIR, "round p;", 2, 6);
        Check.badOrders(PAIR, "round a b;", 1, 8);
        Check.badOrders(PAIR, "round not a;", 1, 6);
        Check.badOrders(PAIR, "announce knows r a;", 2, 15);
        Check.badOrders(PAIR, "announce knows a;", 2, 15);
        Check.badOrders(PAIR, "announce (a;", 1, 11);
        Check.badOrders(PAIR, "announce a b;", 1, 11);
        Check.badOrders(PAIR, "announce " + Check.times("not ", 60) + "a;", 3, 249);
        Check.badOrders(PAIR, Check.times("round a;", 21), 3, 160);
        Check.badOrders(PAIR, Check.times("round a;", 20) + "x;", 1, 160);
        Check.badOrders(PAIR, Check.times("round a;", 20) + " round", 3, 161);
        WhoKnows x = Check.told(PAIR);
        Check.same("an error in the last one", Check.run(x, "announce a;announce"), "throws.IllegalArgumentException");
        Check.same("nothing was done", x.worlds(), 15);
        Check.same("no change", x.size(9), 0);
        Check.argument("the buffer is empty", () -> x.truncate(1));
    }

    private static void ask() {
        WhoKnows x = Check.told(PAIR);
        Check.same("a fact", Check.ask(x, " b "), 1);
        Check.same("truth of b", x.truth(), 12);
        Check.same("a change", x.size(9), 1);
        Check.same("all words", Check.ask(x, "not knows p maybe q all common(a and b or a)"), 11 - 1);
        Check.same("60 nodes", Check.ask(x, Check.times("not ", 59) + "a"), 60);
        Check.same("60 nodes: truth", x.truth(), 5);
        Check.same("60 nodes: joins", Check.ask(x, Check.times("a or ", 29) + "not a"), 60);
        Check.same("60 nodes: joins: truth", x.truth(), 15);
        Check.same("eight parentheses", Check.ask(x, "((((((((a)))))))) and ((((((((b))))))))"), 3);
        Check.same("no spaces", Check.ask(x, "not(a)and(b)or(a)"), 6);
        Check.argument("the buffer is empty", () -> x.truncate(1));
        x.undo();
        Check.same("undone", x.size(5), 3);
    }

    private static void askErrors() {
        Check.badAsk(PAIR, "", 1, 0);
        Check.badAsk(PAIR, "a;", 1, 1);
        Check.badAsk(PAIR, "a b", 1, 2);
        Check.badAsk(PAIR, "a)", 1, 1);
        Check.badAsk(PAIR, "a and", 1, 5);
        Check.badAsk(PAIR, "a not b", 1, 2);
        Check.badAsk(PAIR, "knows", 1, 5);
        Check.badAsk(PAIR, "knows p", 1, 7);
        Check.badAsk(PAIR, "knows a a", 2, 6);
        Check.badAsk(PAIR, "maybe r a", 2, 6);
        Check.badAsk(PAIR, "knows not a", 1, 6);
        Check.badAsk(PAIR, "knows(p)a", 1, 5);
        Check.badAsk(PAIR, "all p", 2, 4);
        Check.badAsk(PAIR, "that", 1, 0);
        Check.badAsk(PAIR, "common seventh", 1, 7);
        Check.badAsk(PAIR, "(((((((((a", 1, 8);
        Check.badAsk(PAIR, "((a) and (b)", 1, 12);
        Check.badAsk(PAIR, Check.times("not ", 60) + "a", 3, 240);
        Check.badAsk(PAIR, Check.times("knows p ", 60) + "a", 3, 480);
        Check.badAsk(PAIR, Check.times("not ", 60) + "knows r a", 3, 240);
        Check.badAsk(PAIR, "(" + Check.times("a or ", 30) + "a)", 3, 151);
        WhoKnows x = asked(PAIR, "b");
        Check.same("an error", Check.ask(x, "a a"), "throws.IllegalArgumentException");
        Check.same("an error leaves QUESTION", x.truth(), 12);
        Check.same("an error is no change", x.size(9), 1);
        Check.argument("an error empties the buffer", () -> x.truncate(1));
    }

    private static void errorCodeAndPosition() {
        WhoKnows x = Check.told(PAIR);
        Check.ask(x, "a ?");
        Check.error("ask", x, 1, 2);
        Check.argument("another exception", () -> x.size(10));
        Check.error("another call", x, 1, 2);
        Check.ask(x, "a");
        Check.error("ask of a good one", x, 0, NONE);
        Check.run(x, "round x;");
        Check.error("runOrders", x, 2, 6);
        x.save();
        x.restore();
        x.undo();
        Check.error("restore leaves it", x, 2, 6);
        Check.run(x, "");
        Check.error("runOrders of a good one", x, 0, NONE);
        Check.read(x, "facts a;law a and not a;person p");
        Check.error("readText", x, 4, 8);
        x.undo();
        Check.error("undo leaves it", x, 4, 8);
        Check.read(x, PAIR);
        Check.error("readText of a good one", x, 0, NONE);
    }

    private static void size() {
        WhoKnows x = asked(MUDDY, "knows x (a or all b) and not maybe y c");
        x.announce();
        x.round(0);
        // Nodes are knows, a, or, all, b, and, not, maybe, c; it is true in 1, 2 and 3, of which the round leaves 2, 3.
        int[] sizes = {3, 3, 2, 7, 3, 9, 2, 1, 2, 3};
        for (int what = 0; what < sizes.length; what++) {
            Check.same("size(" + what + ")", x.size(what), sizes[what]);
        }
        Check.argument("size(-1)", () -> x.size(-1));
        Check.argument("size(10)", () -> x.size(10));
        String[] questions = {"a", "not not a", "all common knows x maybe y a", "all a and all all b", "a or not all a",
            "not (all a or common all b)"};
        int[] depths = {0, 0, 4, 2, 1, 2};
        for (int index = 0; index < questions.length; index++) {
            Check.same("depth of " + questions[index], asked(MUDDY, questions[index]).size(6), depths[index]);
        }
        WhoKnows y = asked(MUDDY, "a");
        y.announce();
        Check.same("left", y.size(2), 4);
        Check.same("left at first", y.size(3), 7);
    }

    private static void letter() {
        WhoKnows x = Check.told("facts sunny b;person thirty;person q");
        String name = "sunny";
        for (int index = 0; index < name.length(); index++) {
            Check.same("letter " + index, x.letter(false, 0, index), (int) name.charAt(index));
        }
        Check.same("no letter", x.letter(false, 0, 5), NONE);
        Check.same("letter -1", x.letter(false, 0, -1), NONE);
        Check.same("letter of the least index", x.letter(false, 0, Integer.MIN_VALUE), NONE);
        Check.same("letter of the greatest index", x.letter(false, 1, Integer.MAX_VALUE), NONE);
        Check.same("sixth letter", x.letter(true, 0, 5), (int) 'y');
        Check.same("seventh letter", x.letter(true, 0, 6), NONE);
        Check.same("second fact", x.letter(false, 1, 0), (int) 'b');
        Check.same("second person", x.letter(true, 1, 0), (int) 'q');
        Check.index("no fact", () -> x.letter(false, 2, 0));
        Check.index("no person", () -> x.letter(true, 2, 0));
        Check.index("fact -1", () -> x.letter(false, -1, 9));
        Check.index("person -1", () -> x.letter(true, -1, 0));
    }

    private static void seesAndWorlds() {
        WhoKnows x = Check.told("facts a b c d e;law e;person p e a;person q;person r b c d");
        Check.same("sees(0)", x.sees(0), 17);
        Check.same("sees(1)", x.sees(1), 0);
        Check.same("sees(2)", x.sees(2), 14);
        Check.index("sees(3)", () -> x.sees(3));
        Check.index("sees(-1)", () -> x.sees(-1));
        Check.same("worlds below 0", x.worlds(), 0xFFFF0000);
        Check.same("worlds of one fact", Check.told("facts a;law not a;person p").worlds(), 1);
        Check.same("worlds", Check.told(MUDDY).worlds(), 254);
    }

    private static void alike() {
        WhoKnows x = Check.told(MUDDY);
        int[][] due = {{0, 2, 12, 12, 48, 48, 192, 192}, {0, 10, 4, 10, 80, 160, 80, 160},
            {0, 34, 68, 136, 16, 34, 68, 136}};
        for (int person = 0; person < 3; person++) {
            for (int world = 0; world < 8; world++) {
                Check.same("alike(" + person + ", " + world + ")", x.alike(person, world), due[person][world]);
            }
        }
        Check.index("world 8", () -> x.alike(0, 8));
        Check.index("world -1", () -> x.alike(0, -1));
        Check.index("person 3", () -> x.alike(3, 1));
        Check.index("person -1", () -> x.alike(-1, 1));
        x.announce();
        Check.same("after an announcement", x.alike(0, 3), 8);
        Check.same("ruled out", x.alike(0, 2), 0);
        x.show(1, 1);
        Check.same("after showing", x.alike(1, 1), 2);
        Check.same("the other one", x.alike(1, 3), 8);
        Check.same("of another person", x.alike(2, 1), 34);
        WhoKnows y = Check.told("facts a b c d e;person p;person q a b c d");
        Check.same("all", y.alike(0, 31), -1);
        Check.same("two", y.alike(1, 31), 0x80008000);
        Check.index("world 32", () -> y.alike(0, 32));
    }

    private static void kindsAndDoubts() {
        WhoKnows x = Check.told(MUDDY);
        Check.same("kinds(0)", x.kinds(0), 4);
        Check.same("doubts(0)", x.doubts(0), 3);
        Check.index("kinds(3)", () -> x.kinds(3));
        Check.index("kinds(-1)", () -> x.kinds(-1));
        Check.index("doubts(3)", () -> x.doubts(3));
        Check.index("doubts(-1)", () -> x.doubts(-1));
        x.announce();
        Check.same("kinds then", x.kinds(1), 2);
        Check.same("doubts then", x.doubts(1), 2);
        Check.same("kinds of one who knows", x.kinds(0), 4);
        Check.same("doubts of one who knows", x.doubts(0), 0);
        WhoKnows y = Check.told("facts a b c d e;person p;person q a b c d e");
        Check.same("all alike", y.kinds(0), 1);
        Check.same("all pairs", y.doubts(0), 496);
        Check.same("none alike", y.kinds(1), 32);
        Check.same("no pairs", y.doubts(1), 0);
        y.show(0, 2);
        Check.same("halves", y.kinds(0), 2);
        Check.same("pairs in halves", y.doubts(0), 240);
    }

    private static void reachAndSteps() {
        WhoKnows x = Check.told(MUDDY);
        Check.same("reach(1)", x.reach(1), 254);
        Check.same("reach of one ruled out", x.reach(0), 0);
        Check.index("reach(8)", () -> x.reach(8));
        Check.index("reach(-1)", () -> x.reach(-1));
        int[] due = {NONE, 0, 2, 1, 2, 1, 3, 2};
        for (int world = 0; world < 8; world++) {
            Check.same("steps(1, " + world + ")", x.steps(1, world), due[world]);
        }
        Check.same("steps(0, 0)", x.steps(0, 0), NONE);
        Check.same("steps(0, 1)", x.steps(0, 1), NONE);
        Check.index("steps(8, 1)", () -> x.steps(8, 1));
        Check.index("steps(1, 8)", () -> x.steps(1, 8));
        Check.index("steps(-1, 1)", () -> x.steps(-1, 1));
        Check.index("steps(1, -1)", () -> x.steps(1, -1));
        WhoKnows y = Check.told("facts a b;person p a;person q a");
        Check.same("reach(0) of one half", y.reach(0), 5);
        Check.same("reach(3) of the other one", y.reach(3), 10);
        Check.same("steps in a half", y.steps(2, 0), 1);
        Check.same("steps between halves", y.steps(0, 1), NONE);
        WhoKnows z = Check.told("facts a b;person p a b");
        Check.same("reach of none but itself", z.reach(2), 4);
        // A way from 0 to 31 that changes one fact in each step.
        WhoKnows long5 = Check.told("facts a b c d e;person p b c d e;person q a c d e;person r a b d e;"
                + "person s a b c e;person t a b c d");
        Check.same("five steps", long5.steps(0, 31), 5);
        Check.same("all 32", long5.reach(17), -1);
        // Along this way no step can be left out.
        WhoKnows ring = Check.told("facts a b c d e;law (not a or b) and (not b or c) and (not c or d) and (not d or e);"
                + "person p b c d e;person q a c d e;person r a b d e;person s a b c e;person t a b c d");
        Check.same("a chain", ring.worlds(), 1 | 1 << 16 | 1 << 24 | 1 << 28 | 1 << 30 | 1 << 31);
        Check.same("a chain's ends", ring.steps(31, 0), 5);
    }

    private static void holdsAndTruth() {
        String[] questions = {"a", "not a", "a and b", "a or b", "knows x a", "maybe x a", "knows x not a", "all a",
            "common a", "common (a or b or c)", "not knows x a", "knows y knows x b", "all (a or b)", "maybe y knows x a",
            "a or b and c", "(a or b) and c", "common not (not a and not b and not c)"};
        int[] truths = {170, 84, 136, 238, 2, 254, 0, 2, 0, 254, 252, 4, 142, 10, 234, 224, 254};
        for (int index = 0; index < questions.length; index++) {
            WhoKnows x = asked(MUDDY, questions[index]);
            Check.same("truth of " + questions[index], x.truth(), truths[index]);
            for (int world = 0; world < 8; world++) {
                boolean due = (truths[index] >> world & 1) == 1;
                Check.same(questions[index] + " holds(" + world + ")", x.holds(world), due);
            }
        }
        WhoKnows x = Check.told(MUDDY);
        Check.index("holds(8)", () -> x.holds(8));
        Check.index("holds(-1)", () -> x.holds(-1));
        Check.same("world 31", Check.told("facts a b c d e;person p").holds(31), true);
        WhoKnows y = asked("facts a b c d e;person p", "e");
        Check.same("below 0", y.truth(), 0xFFFF0000);
    }

    private static void whoAndWhether() {
        String[] questions = {"a", "not a", "b", "c", "not c", "a or b or c", "a and b", "knows x a", "not knows x a"};
        int[] who = {6, 0, 5, 0, 3, 7, 4, 0, 5};
        int[] whether = {6, 6, 5, 3, 3, 7, 4, 5, 5};
        for (int index = 0; index < questions.length; index++) {
            WhoKnows x = asked(MUDDY, questions[index]);
            Check.same("who of " + questions[index], x.who(), who[index]);
            Check.same("whether of " + questions[index], x.whether(), whether[index]);
        }
    }

    private static void isCommonLevelUnlike() {
        String[] questions = {"a", "not a", "a or b", "a or b or c", "not c", "a and b and c"};
        int[] levels = {0, NONE, 2, COMMON, 0, NONE};
        for (int index = 0; index < questions.length; index++) {
            WhoKnows x = asked(MUDDY, questions[index]);
            Check.same("level of " + questions[index], x.level(), levels[index]);
            Check.same("isCommon of " + questions[index], x.isCommon(), levels[index] == COMMON);
            Check.same("unlike of " + questions[index], x.unlike(), 0);
        }
        // The chain 31, 30, 28, 24, 16, 0 with REAL at its one end and a lie at the other one.
        WhoKnows chain = asked("facts a b c d e;law (not a or b) and (not b or c) and (not c or d) and (not d or e);"
                + "person p b c d e;person q a c d e;person r a b d e;person s a b c e;person t a b c d", "not a");
        Check.same("chain: level", chain.level(), 4);
        Check.same("chain: unlike", chain.unlike(), 0);
        Check.ask(chain, "e or not e");
        Check.same("chain: common", chain.level(), COMMON);
        Check.same("chain: isCommon", chain.isCommon(), true);
        WhoKnows x = Check.told(MUDDY);
        x.announce();
        Check.same("what was announced is common", x.isCommon(), true);
        Check.same("its level", x.level(), COMMON);
        // Common where REAL is, though not in all worlds.
        WhoKnows half = asked("facts a b;person p a;person q a;real a", "a");
        Check.same("common in a half", half.isCommon(), true);
        Check.same("common in a half: level", half.level(), COMMON);
        Check.same("common in a half: truth", half.truth(), 10);
        Check.same("common in a half: unlike", half.unlike(), 0);
    }

    private static void knowsFactAndKnowers() {
        WhoKnows x = Check.told(MUDDY);
        int[][] due = {{NONE, 1, 0}, {1, NONE, 0}, {1, 1, NONE}};
        for (int person = 0; person < 3; person++) {
            for (int fact = 0; fact < 3; fact++) {
                Check.same("knowsFact(" + person + ", " + fact + ")", x.knowsFact(person, fact), due[person][fact]);
            }
        }
        Check.index("person 3", () -> x.knowsFact(3, 0));
        Check.index("person -1", () -> x.knowsFact(-1, 0));
        Check.index("fact 3", () -> x.knowsFact(0, 3));
        Check.index("fact -1", () -> x.knowsFact(0, -1));
        Check.same("knowers", x.knowers(), 0);
        x.show(0, 0);
        Check.same("knowers then", x.knowers(), 1);
        x.announce();
        Check.same("knowers still", x.knowers(), 1);
        x.show(2, 2);
        Check.same("two knowers", x.knowers(), 5);
        Check.same("knowers at 1", Check.told(MUDDY.replace("real a b", "real a")).knowers(), 1);
    }

    private static void wouldLeaveAndWouldSay() {
        WhoKnows x = asked(MUDDY, "a");
        Check.same("wouldLeave", x.wouldLeave(), 4);
        Check.same("wouldSay(0)", x.wouldSay(0), -2);
        Check.same("wouldSay(1)", x.wouldSay(1), 4);
        Check.same("nothing changes", x.worlds() + x.size(8) + x.size(9), 254 + 1);
        Check.index("wouldSay(3)", () -> x.wouldSay(3));
        Check.index("wouldSay(-1)", () -> x.wouldSay(-1));
        Check.ask(x, "not a");
        Check.same("wouldLeave of a lie", x.wouldLeave(), -1);
        Check.same("wouldSay of a lie", x.wouldSay(0), -1);
        Check.same("wouldSay of a lie, known", x.wouldSay(1), -1);
        Check.index("wouldSay(3) of a lie", () -> x.wouldSay(3));
        Check.ask(x, "a and b");
        Check.same("wouldSay(2)", x.wouldSay(2), 2);
        Check.same("wouldSay(0) then", x.wouldSay(0), -2);
    }

    private static void wouldKnow() {
        WhoKnows x = asked(MUDDY, "a");
        int[] due = {0, 1, 0, 1, 0, 1, 0, 1};
        for (int persons = 0; persons < 8; persons++) {
            Check.same("wouldKnow(" + persons + ")", x.wouldKnow(persons), due[persons]);
        }
        Check.same("nothing changes", x.knowers() + x.size(8) + x.size(9) + x.doubts(0), 1 + 3);
        Check.argument("wouldKnow(8)", () -> x.wouldKnow(8));
        Check.argument("wouldKnow(-1)", () -> x.wouldKnow(-1));
        Check.argument("wouldKnow(32)", () -> x.wouldKnow(32));
        Check.argument("wouldKnow of the least number", () -> x.wouldKnow(Integer.MIN_VALUE));
        x.show(1, 1);
        Check.same("one knows already", x.wouldKnow(0), 2);
        Check.same("one knows already, one learns", x.wouldKnow(1), 3);
        Check.ask(x, "knows y b and not c");
        Check.same("two learn", x.wouldKnow(5), 6);
    }

    private static void roundsTo() {
        WhoKnows x = Check.told(MUDDY);
        for (int fact = 0; fact < 3; fact++) {
            Check.same("roundsTo(" + fact + ")", x.roundsTo(fact), NONE);
        }
        Check.index("roundsTo(3)", () -> x.roundsTo(3));
        Check.index("roundsTo(-1)", () -> x.roundsTo(-1));
        Check.same("nothing changes", x.worlds() + x.size(8) + x.size(9), 254);
        Check.same("all know", Check.told("facts a;person p a").roundsTo(0), 0);
        // Worlds 0, 1, 3: q knows a in 3 alone, so that p knows behind the first round.
        WhoKnows one = Check.told("facts a b;law a or not b;person p;person q b;real a b");
        Check.same("one round", one.roundsTo(0), 1);
        Check.same("of a fact that q knows", one.roundsTo(1), NONE);
        // Worlds 1, 2, 3, 4, 6: q knows in 4 and 6, p in 1 as soon as these are gone, and q when 2 and 3 are gone.
        WhoKnows two = Check.told("facts a b c;law not a or not c;law a or b or c;person p b;person q c;real a");
        Check.same("two rounds", two.roundsTo(0), 2);
        Check.same("the first one", two.round(0), 0);
        Check.same("what it leaves", two.worlds(), 14);
        Check.same("one more", two.roundsTo(0), 1);
        Check.same("the second one", two.round(0), 1);
        Check.same("none more", two.roundsTo(0), 0);
        Check.same("all know", two.round(0), 3);
    }

    private static void bestFact() {
        WhoKnows x = Check.told(MUDDY);
        Check.same("bestFact", x.bestFact(), 2);
        Check.same("the lowest one of several", Check.told(PAIR).bestFact(), 0);
        Check.same("one fact", new WhoKnows().bestFact(), 0);
        // 1, 2, 3 are left: a holds in two, b in two; not b, that REAL has, is in one.
        Check.same("the other way round", Check.told("facts a b;law a or b;person p;real a").bestFact(), 1);
        x.announce();
        Check.same("of those that are left", x.bestFact(), 1);
    }

    private static void leastShown() {
        WhoKnows x = Check.told(MUDDY);
        Check.same("leastShown(0)", x.leastShown(0), 1);
        Check.same("leastShown(1)", x.leastShown(1), 2);
        Check.same("leastShown(2)", x.leastShown(2), 4);
        Check.index("leastShown(3)", () -> x.leastShown(3));
        Check.index("leastShown(-1)", () -> x.leastShown(-1));
        x.show(0, 0);
        Check.same("knows already", x.leastShown(0), 0);
        Check.same("both", Check.told("facts a b;person p;real a").leastShown(0), 3);
        Check.same("all five", Check.told("facts a b c d e;person p").leastShown(0), 31);
        Check.same("the least number",
                Check.told("facts a b;law (a and b) or (not a and not b);person p").leastShown(0), 1);
        Check.same("fewest ahead of the least number", Check.told("facts a b c;law not a and not b and not c or "
                + "c and (a and not b or b and not a);person p").leastShown(0), 4);
    }

    private static void log() {
        WhoKnows x = Check.told(MUDDY);
        Check.same("no act", x.log(0, 0), NONE);
        Check.argument("what -1", () -> x.log(0, -1));
        Check.argument("what 3", () -> x.log(0, 3));
        Check.argument("what 3 of no act", () -> x.log(99, 3));
        x.show(2, 1);
        x.whisper(6);
        x.say(2);
        x.announce();
        x.round(1);
        int[][] due = {{4, 0, x.log(0, 2)}, {0, 0, 0}, {1, 4, 84}, {2, 6, 0}, {3, 4, 0}, {NONE, NONE, NONE}};
        for (int index = 0; index < due.length; index++) {
            for (int what = 0; what <= 2; what++) {
                Check.same("log(" + index + ", " + what + ")", x.log(index, what), due[index][what]);
            }
        }
        Check.same("index -1", x.log(-1, 0), NONE);
        Check.same("the least index", x.log(Integer.MIN_VALUE, 2), NONE);
        for (int times = 0; times < 16; times++) {
            x.show(0, 0);
        }
        Check.same("twenty at most", x.size(8), 20);
        Check.same("the oldest one that is kept", x.log(19, 0), 2);
        Check.same("no twenty-first", x.log(20, 0), NONE);
        Check.same("all are counted", x.account(3), 17);
        WhoKnows y = asked("facts a b c d e;person p", "not e");
        y.announce();
        Check.same("ruled out below 0", y.log(0, 2), 0xFFFF0000);
        y.undo();
        Check.same("taken back", y.log(0, 2), NONE);
    }

    private static void account() {
        WhoKnows x = Check.told(MUDDY);
        x.show(2, 2);
        x.show(2, 2);
        x.whisper(7);
        x.say(1);
        x.announce();
        x.round(0);
        int[] due = {1, 1, 1, 2, 1, 3, 6};
        for (int what = 0; what < due.length; what++) {
            Check.same("account(" + what + ")", x.account(what), due[what]);
        }
        Check.argument("account(-1)", () -> x.account(-1));
        Check.argument("account(7)", () -> x.account(7));
        for (int times = 0; times < 4; times++) {
            x.undo();
        }
        int[] back = {0, 0, 0, 2, 0, 0, 3};
        for (int what = 0; what < back.length; what++) {
            Check.same("account(" + what + ") taken back", x.account(what), back[what]);
        }
        x.round(0);
        x.undo();
        Check.same("the LOG is taken back: sort", x.log(0, 0), 3);
        Check.same("the LOG is taken back: person", x.log(0, 1), 4);
        Check.same("the LOG is taken back: worlds", x.log(0, 2), 0);
    }

    private static void gapShareMean() {
        WhoKnows x = Check.told(MUDDY);
        Check.same("gap", x.gap(), 0);
        Check.same("share", x.share(), 1.0f);
        Check.same("meanAlike", x.meanAlike(), 39.0 / 21.0);
        x.announce();
        Check.same("gap then", x.gap(), 0);
        Check.same("share then", x.share(), 4.0f / 7.0f);
        Check.same("meanAlike then", x.meanAlike(), 20.0 / 12.0);
        x.round(1);
        Check.same("gap at last", x.gap(), 0);
        Check.same("one world", Check.told("facts a;law a;person p").meanAlike(), 1.0);
        Check.same("all worlds", Check.told("facts a b c d e;person p;person q a b c d e").meanAlike(), 16.5);
    }

    private static void announce() {
        WhoKnows x = asked(MUDDY, "not a");
        Check.same("a lie", x.announce(), -1);
        Check.same("nothing changes", x.worlds() + x.size(8) + x.account(0), 254);
        Check.same("no change", x.size(9), 1);
        Check.ask(x, "not knows x a and not knows y b and not knows z c");
        Check.same("nobody knows", x.announce(), 4);
        Check.same("worlds", x.worlds(), 0xE8);
        // Asked as it is ahead of the act: nobody knew, and now x and y do.
        Check.same("it is no longer true", x.announce(), -1);
        Check.same("knowers", x.knowers(), 3);
        Check.same("what was ruled out", x.log(0, 2), 0x16);
        Check.same("REAL stays", x.size(4), 3);
        Check.same("a change", x.undo(), 2);
        Check.same("taken back", x.worlds(), 254);
    }

    private static void say() {
        WhoKnows x = asked(MUDDY, "a and b");
        Check.same("not known", x.say(0), -2);
        Check.same("nothing changes", x.worlds() + x.size(8) + x.account(1), 254);
        Check.index("say(3)", () -> x.say(3));
        Check.index("say(-1)", () -> x.say(-1));
        Check.same("known", x.say(2), 2);
        Check.same("worlds", x.worlds(), 0x88);
        Check.same("account", x.account(1), 1);
        Check.ask(x, "not a");
        Check.same("a lie that it knows", x.say(1), -1);
        Check.same("a lie that it knows not", Check.told(MUDDY.replace("real a b", "real b")).say(0), -1);
        Check.index("exceptions first", () -> x.say(3));
        // Fewer are left than by announcing: where it is true, but not known, is ruled out, too.
        WhoKnows y = asked(MUDDY, "b or c");
        Check.same("wouldLeave", y.wouldLeave(), 6);
        Check.same("say", y.say(2), 5);
        Check.same("worlds then", y.worlds(), 0xDC);
    }

    private static void whisper() {
        WhoKnows x = asked(MUDDY, "a");
        Check.argument("whisper(0)", () -> x.whisper(0));
        Check.argument("whisper(8)", () -> x.whisper(8));
        Check.argument("whisper(9)", () -> x.whisper(9));
        Check.argument("whisper(-1)", () -> x.whisper(-1));
        Check.same("nothing changes", x.size(8) + x.size(9), 1);
        Check.same("to those who know", x.whisper(6), 0);
        Check.same("to x", x.whisper(7), 3);
        Check.same("again", x.whisper(1), 0);
        Check.same("worlds stay", x.worlds(), 254);
        Check.ask(x, "knows x a");
        Check.same("of knowledge", x.truth(), 170);
        WhoKnows y = asked(MUDDY, "knows x a");
        Check.same("to two", y.whisper(6), 2);
        Check.same("they tell them apart", y.alike(1, 1), 2);
        Check.same("x does not", y.alike(0, 3), 12);
        WhoKnows z = asked(MUDDY, "not a");
        Check.same("what is not true", z.whisper(1), 3);
        Check.same("x knows that", z.knowsFact(0, 0), 1);
        WhoKnows all = asked("facts a b c d e;person p;person q", "e");
        Check.same("all pairs", all.whisper(3), 512);
        Check.same("account", all.account(6), 512);
    }

    private static void show() {
        WhoKnows x = Check.told(MUDDY);
        Check.index("show(3, 0)", () -> x.show(3, 0));
        Check.index("show(-1, 0)", () -> x.show(-1, 0));
        Check.index("show(0, 3)", () -> x.show(0, 3));
        Check.index("show(0, -1)", () -> x.show(0, -1));
        Check.same("nothing changes", x.size(8) + x.size(9), 0);
        Check.same("show(0, 0)", x.show(0, 0), 3);
        Check.same("again", x.show(0, 0), 0);
        Check.same("what it sees", x.show(0, 1), 0);
        Check.same("changes", x.size(9), 3);
        Check.same("account", x.account(3), 3);
        Check.same("a fact that does not hold", x.show(2, 2), 3);
        Check.same("knowers", x.knowers(), 5);
        x.announce();
        Check.same("of those that are left", x.show(1, 1), 2);
    }

    private static void round() {
        WhoKnows x = Check.told(MUDDY);
        Check.index("round(3)", () -> x.round(3));
        Check.index("round(-1)", () -> x.round(-1));
        Check.same("round(0)", x.round(0), 6);
        Check.same("worlds", x.worlds(), 252);
        Check.same("ruled out", x.log(0, 2), 2);
        Check.same("account", x.account(4), 1);
        Check.same("again", x.round(0), 6);
        Check.same("none more", x.worlds(), 252);
        Check.same("round(1)", x.round(1), 7);
        // y knows b in 2 of itself and in 3 since 1 is gone.
        Check.same("worlds then", x.worlds(), 12);
        Check.same("a change", x.undo(), 2);
        // Those who know are told apart, not only whether all do.
        WhoKnows y = Check.told("facts a b;law a or not b;person p;person q b;real a b");
        Check.same("q alone", y.round(0), 2);
        Check.same("one world", y.worlds(), 8);
        Check.same("all", y.round(0), 3);
        // In a world where it does not hold one may know as well.
        WhoKnows z = Check.told(PAIR);
        Check.same("p alone", z.round(0), 1);
        Check.same("p knows whether in all", z.worlds(), 15);
    }

    private static void written(WhoKnows x, String what, int length, String due) {
        Check.same(what, Check.output(x), due);
        Check.same(what + ": length", length, due.length());
    }

    private static void writeWorld() {
        WhoKnows x = Check.told("facts rain b sunny;law not (rain and sunny);person p;real b");
        written(x, "none", x.writeWorld(0), "-");
        written(x, "one", x.writeWorld(1), "rain");
        written(x, "real", x.writeWorld(2), "!b");
        written(x, "two", x.writeWorld(6), "b+sunny");
        written(x, "ruled out", x.writeWorld(7), "x rain+b+sunny");
        Check.index("writeWorld(8)", () -> x.writeWorld(8));
        Check.index("writeWorld(-1)", () -> x.writeWorld(-1));
        Check.same("the text stays", Check.output(x), "x rain+b+sunny");
        WhoKnows y = Check.told("facts a;person p");
        written(y, "real none", y.writeWorld(0), "!-");
        WhoKnows z = Check.told("facts a;law a;person p");
        written(z, "ruled out none", z.writeWorld(0), "x -");
        written(z, "real one", z.writeWorld(1), "!a");
    }

    private static void writeKinds() {
        WhoKnows x = Check.told(MUDDY);
        written(x, "x", x.writeKinds(0), "1|2 3|4 5|6 7");
        written(x, "y", x.writeKinds(1), "1 3|2|4 6|5 7");
        written(x, "z", x.writeKinds(2), "1 5|2 6|3 7|4");
        Check.index("writeKinds(3)", () -> x.writeKinds(3));
        Check.index("writeKinds(-1)", () -> x.writeKinds(-1));
        Check.same("the text stays", Check.output(x), "1 5|2 6|3 7|4");
        x.announce();
        written(x, "y then", x.writeKinds(1), "1 3|5 7");
        WhoKnows y = Check.told("facts a b c d;person p a b c");
        written(y, "two digits", y.writeKinds(0), "0 8|1 9|2 10|3 11|4 12|5 13|6 14|7 15");
        WhoKnows z = Check.told("facts a b c d e;law (a or b or c or d) and e;person p");
        written(z, "one set", z.writeKinds(0), "17 18 19 20 21 22 23 24 25 26 27 28 29 30 31");
    }

    private static void writeQuestion() {
        String[][] due = {{"a", "a"}, {"a and not (b or c)", "(a and not (b or c))"}, {"((a))", "a"},
            {"a and b and c", "((a and b) and c)"}, {"a or b or c", "((a or b) or c)"},
            {"a or (b or c)", "(a or (b or c))"}, {"a or b and c", "(a or (b and c))"},
            {"(a or b) and c", "((a or b) and c)"}, {"not a or b", "(not a or b)"}, {"not(a or b)", "not (a or b)"},
            {"knows x a and b", "(knows x a and b)"}, {"knows   x(a and b)", "knows x (a and b)"},
            {"maybe y not all common z", "maybe y not all common z"},
            {"a and b or c and a", "((a and b) or (c and a))"},
            {"not (not (a) and knows z (b)) or c", "(not (not a and knows z b) or c)"},
            {"(a and b) and (b and (c or a) and a)", "((a and b) and ((b and (c or a)) and a))"}};
        for (String[] row : due) {
            WhoKnows x = asked(row[0].contains("z") && row[0].contains("common")
                    ? "facts a z;person y" : MUDDY, row[0]);
            written(x, row[0], x.writeQuestion(), row[1]);
        }
        WhoKnows x = Check.told("facts abcdef;person ghijkl");
        written(x, "the first fact", x.writeQuestion(), "abcdef");
        Check.same("30 facts", Check.ask(x, Check.times("abcdef or ", 29) + "abcdef"), 59);
        written(x, "30 facts", x.writeQuestion(),
                Check.times("(", 29) + "abcdef" + Check.times(" or abcdef)", 29));
        Check.same("40 nodes", Check.ask(x, Check.times("maybe ghijkl ", 39) + "abcdef"), 40);
        written(x, "40 nodes", x.writeQuestion(), Check.times("maybe ghijkl ", 39) + "abcdef");
    }

    private static void outputByte() {
        WhoKnows x = asked(PAIR, "a and b");
        Check.same("no text yet", x.outputByte(0), NONE);
        x.writeQuestion();
        Check.same("first", x.outputByte(0), (int) '(');
        Check.same("last", x.outputByte(8), (int) ')');
        Check.same("behind the last", x.outputByte(9), NONE);
        Check.same("-1", x.outputByte(-1), NONE);
        Check.same("the least index", x.outputByte(Integer.MIN_VALUE), NONE);
        x.writeWorld(1);
        Check.same("in place of what it had", Check.output(x), "!a");
        x.undo();
        Check.read(x, PAIR);
        Check.same("it stays", Check.output(x), "!a");
    }

    private static void undo() {
        WhoKnows x = Check.told(MUDDY);
        for (int times = 1; times <= 10; times++) {
            Check.ask(x, Check.times("not ", times) + "a");
            Check.same("changes", x.size(9), Math.min(times, 8));
        }
        for (int times = 9; times >= 2; times--) {
            Check.same("undo", x.undo(), times - 2);
            Check.same("QUESTION is back", x.size(5), times + 1);
        }
        Check.same("none more", x.undo(), NONE);
        Check.same("nothing changes", x.size(5), 3);
        x.show(0, 0);
        x.round(0);
        Check.same("behind an undo", x.size(9), 2);
        Check.put(x, "a?");
        Check.argument("an error", x::ask);
        Check.put(x, "abc");
        x.writeWorld(3);
        x.save();
        Check.same("undo of a round", x.undo(), 1);
        Check.same("the buffer stays", x.truncate(3), 3);
        Check.error("the error stays", x, 1, 1);
        Check.same("the output stays", Check.output(x), "!a+b");
        Check.same("the round is gone", x.account(4), 0);
        Check.same("undo of showing", x.undo(), 0);
        Check.same("alike again", x.alike(0, 3), 12);
        Check.same("what was saved stays", x.restore(), x.size(2));
        Check.same("with the round", x.account(4), 1);
        Check.same("no change then", x.undo(), NONE);
        x.truncate(0);
        x.whisper(1);
        Check.same("a refused one is none", x.undo(), 0);
    }

    private static void saveAndRestore() {
        WhoKnows x = Check.told(MUDDY);
        Check.state("nothing saved", x::restore);
        x.show(0, 0);
        Check.ask(x, "a and b");
        Check.same("save", x.save(), 7);
        Check.same("the changes stay", x.size(9), 2);
        x.announce();
        Check.put(x, "a?");
        Check.argument("an error", x::ask);
        Check.put(x, "abc");
        x.writeWorld(3);
        Check.same("restore", x.restore(), 7);
        Check.same("worlds", x.worlds(), 254);
        Check.same("alike", x.alike(0, 3), 8);
        Check.same("QUESTION", x.truth(), 0x88);
        Check.same("LOG", x.size(8), 1);
        Check.same("accounts", x.account(0) + x.account(3), 1);
        Check.same("no changes", x.undo(), NONE);
        Check.same("the buffer stays", x.truncate(3), 3);
        Check.error("the error stays", x, 1, 1);
        Check.same("the output stays", Check.output(x), "!a+b");
        x.truncate(0);
        x.announce();
        Check.same("a copy", x.restore(), 7);
        Check.same("twice", x.restore(), 7);
        Check.read(x, PAIR);
        Check.same("another description, restored", x.restore(), 7);
        Check.same("its persons", x.size(1), 3);
        Check.same("its laws", x.size(7), 1);
        x.announce();
        Check.same("save in place", x.save(), 2);
        x.undo();
        Check.same("restored in place", x.restore(), 2);
        Check.same("its share", x.share(), 2.0f / 7.0f);
    }
}
