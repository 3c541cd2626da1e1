/** Tests of single sentences: the texts of sections 4 and 5, and the promises 1 to 8. */
final class EdgesOfTexts {
    private static final int NONE = WhoKnows.NONE;
    /** Worlds 0 to 3 are left, REAL is 1. Alike are for p 0 2, 1 3; for q 0 1, 2 3. */
    private static final String PAIR = "facts a b;person p a;person q b;real a";
    private static final String[] RESERVED = {"not", "and", "or", "knows", "maybe", "all", "common", "that"};
    private static final String THROWN = "throws.IllegalArgumentException";

    private EdgesOfTexts() {
    }

    /** A text with spaces behind it, up to a length. */
    private static String padded(String text, int length) {
        return text + Check.times(" ", length - text.length());
    }

    @Says(at = "4", value = "\"facts\" NAME { NAME } { \";\" \"law\" FORMULA } \";\" \"person\" NAME { NAME }")
    static void statements() {
        Check.same("the least text", Check.told("facts a;person p").size(2), 2);
        Check.same("one law", Check.told("facts a;law a;person p").size(7), 1);
        Check.same("two persons", Check.told("facts a;person p;person q").size(1), 2);
        Check.badText("person p", 1, 0);
        Check.badText("law a;person p", 1, 0);
        Check.badText("facts a;real", 1, 8);
        Check.badText("facts a;law a;real", 1, 14);
        Check.badText("facts a;person p;law a", 1, 17);
        Check.badText("facts a;facts b;person p", 1, 8);
        Check.badText("facts a;person p;", 1, 17);
        Check.badText("facts a;person p;real;real", 1, 21);
        Check.badText("facts a;person p;real;person q", 1, 21);
        Check.badText("facts a;;person p", 1, 8);
    }

    @Says(at = "4", value = "real tells the facts that hold in REAL (the others do not hold in it)")
    static void realTold() {
        Check.same("none", Check.told("facts a b c;person p;real").size(4), 0);
        Check.same("one", Check.told("facts a b c;person p;real b").size(4), 2);
        Check.same("all, in another order", Check.told("facts a b c;person p;real c a b").size(4), 7);
        Check.same("all five", Check.told("facts a b c d e;person p;real a b c d e").size(4), 31);
        Check.same("of a law", Check.told("facts a b c;law a or b or c;person p;real b c").size(4), 6);
    }

    @Says(at = "4", value = "without it REAL is the lowest world that is left")
    static void realNotTold() {
        Check.same("no law", Check.told("facts a b c;person p").size(4), 0);
        Check.same("0 is not left", Check.told("facts a b c;law a or b or c;person p").size(4), 1);
        Check.same("up to 6 are not left", Check.told("facts a b c;law a and b and c;person p").size(4), 7);
        WhoKnows last = Check.told("facts a b c d e;law a and b and c and d and e;person p");
        Check.same("31 alone is left", last.size(4), 31);
    }

    @Says(at = "4", value = "Of laws at most 6")
    static void sixLaws() {
        for (int laws = 0; laws <= 6; laws++) {
            Check.same("laws", Check.told("facts a" + Check.times(";law a", laws) + ";person p").size(7), laws);
        }
        Check.badText("facts a" + Check.times(";law a", 7) + ";person p", 3, 44);
        WhoKnows x = Check.told("facts a b c" + Check.times(";law a", 5) + ";law b;person p");
        Check.same("the sixth one counts", x.worlds(), 0x88);
    }

    @Says(at = "4", value = "a law has no knows, maybe, all, common")
    static void lawsWithoutKnowing() {
        for (String word : new String[] {"knows p", "maybe p", "all", "common"}) {
            Check.badText("facts a;law " + word + " a;person p", 1, 12);
            Check.badText("facts a;law not " + word + " a;person p", 1, 16);
            Check.badText("facts a;law (" + word + " a);person p", 1, 13);
            Check.badText("facts a;law a and " + word + " a;person p", 1, 18);
            Check.badText("facts a;law a or " + word + " a;person p", 1, 17);
        }
        Check.same("not, and, or", Check.told("facts a b;law not a and b or a;person p").worlds(), 14);
        // What a law must not have, other formulas may, behind a law, too.
        WhoKnows x = Check.told("facts a;law a;person p");
        Check.same("a question", Check.ask(x, "knows p a"), 2);
        Check.same("an order", Check.run(x, "announce common a;"), 1);
    }

    @Says(at = "4", value = "NAMEs are words of 1 to 6 letters")
    static void nameLengths() {
        Check.same("one letter", Check.told("facts a;person z").letter(true, 0, 0), (int) 'z');
        WhoKnows x = Check.told("facts abcdef;person uvwxyz abcdef;real abcdef");
        Check.same("six letters", x.letter(false, 0, 5), (int) 'f');
        Check.same("six letters of a person", x.letter(true, 0, 5), (int) 'z');
        Check.same("six letters in a formula", Check.ask(x, "knows uvwxyz abcdef"), 2);
        Check.badText("facts abcdefg;person p", 1, 6);
        Check.badText("facts a bcdefgh;person p", 1, 8);
        Check.badText("facts a;person abcdefg", 1, 15);
        Check.badText("facts a;person p abcdefg", 1, 17);
        Check.badText("facts abcdef;law abcdefg;person p", 1, 17);
        Check.badText("facts a;person p;real abcdefg", 1, 22);
        Check.badAsk(PAIR, "abcdefg", 1, 0);
        Check.badAsk(PAIR, "knows abcdefg a", 1, 6);
        Check.badOrders(PAIR, "say abcdefg a;", 1, 4);
        Check.badOrders(PAIR, "round abcdefg;", 1, 6);
        // Names are told apart by their last letters, and by their length.
        WhoKnows y = Check.told("facts abcdef abcdeg abcde;person p abcdeg");
        Check.same("the sixth letter counts", y.sees(0), 2);
    }

    @Says(at = "4", value = "but none of \"not\", \"and\", \"or\", \"knows\", \"maybe\", \"all\", \"common\", "
            + "\"that\"")
    static void reservedWords() {
        for (String word : RESERVED) {
            Check.badText("facts " + word + ";person p", 1, 6);
            Check.badText("facts a " + word + ";person p", 1, 8);
            Check.badText("facts a;person " + word, 1, 15);
            Check.badText("facts a;person p " + word, 1, 17);
            Check.badText("facts a;person p;real " + word, 1, 22);
            Check.badAsk(PAIR, "knows " + word + " a", 1, 6);
            Check.badOrders(PAIR, "round " + word + ";", 1, 6);
            Check.badOrders(PAIR, "show " + word + " a;", 1, 5);
            Check.badOrders(PAIR, "show p " + word + ";", 1, 7);
        }
        WhoKnows x = Check.told("facts nots an o know alls;person thats nots;person facts;person person;person law;"
                + "person real");
        Check.same("words that only look so", Check.ask(x, "nots and an or not o and know or knows thats alls"), 11);
        WhoKnows y = Check.told("facts facts law person real say;person say law;real real");
        Check.same("other words of texts", Check.run(y, "say say not law;show say say;round facts;"), 3);
        WhoKnows z = Check.told("facts commo maybes thatt ors ands;person p");
        Check.same("one letter less or more", z.size(0), 5);
    }

    @Says(at = "4", value = "those of facts are different from each other, and so are those of persons")
    static void differentNames() {
        Check.badText("facts a b c d a;person p", 2, 14);
        Check.badText("facts a;person p;person q;person r;person s;person p", 2, 51);
        WhoKnows x = Check.told("facts a p;person p a;person a p");
        Check.same("a fact and a person of one name", x.sees(0) * 10 + x.sees(1), 12);
        Check.same("each in its place", Check.ask(x, "knows a p and knows p a"), 5);
        Check.same("as the same word", x.truth(), 8);
        Check.same("names that begin alike", Check.told("facts a aa aaa;person a;person aa").size(0), 3);
    }

    @Says(at = "4", value = "Words are maximal runs of lower-case letters.")
    static void words() {
        Check.badText("factsa;person p", 1, 0);
        Check.badText("facts a;personp", 1, 8);
        Check.badText("facts a;lawa;person p", 1, 8);
        Check.badAsk(PAIR, "nota", 2, 0);
        Check.badAsk(PAIR, "a andb", 1, 2);
        Check.badAsk(PAIR, "knowsp a", 2, 0);
        Check.same("a to z", Check.told("facts az za;person z").size(0), 2);
        for (String outside : new String[] {"`", "{", "A", "Z", "@", "[", "0", "_", "\u00e1"}) {
            Check.badText("facts a" + outside + ";person p", 1, 7);
            Check.badText("facts " + outside + "a;person p", 1, 6);
        }
        Check.badText("Facts a;person p", 1, 0);
        Check.same("parentheses end words", Check.ask(Check.told(PAIR), "not(a)or(b)and(a)"), 6);
    }

    @Says(at = "4", value = "Spaces (byte 32) may stand before and after words, parentheses and semicolons")
    static void spaces() {
        WhoKnows x = new WhoKnows();
        String text = "   facts   a   b   ;   law   (   a   or   b   )   ;   person   p   a   ;   real   b   ";
        Check.same("everywhere", Check.read(x, text), 3);
        Check.same("nowhere but between words", Check.read(x, "facts a b;law(a or b);person p a;real b"), 3);
        Check.same("orders", Check.run(x, "  announce  (  b  )  ;  round  a  ;  "), 2);
        Check.same("orders without", Check.run(x, "announce(b);round a;"), 2);
        Check.same("a question", Check.ask(x, "  not  (  a  )  "), 2);
        Check.same("a question without", Check.ask(x, "not(a)"), 2);
        Check.same("up to 600 bytes", Check.read(x, padded("facts a;person p", 600)), 2);
        Check.same("from the first byte", Check.read(x, Check.times(" ", 584) + "facts a;person p"), 2);
        for (char other : new char[] {0, 9, 10, 13, 31, 33, 160}) {
            Check.badText("facts a" + other + ";person p", 1, 7);
            Check.badText(other + "facts a;person p", 1, 0);
            Check.badText("facts a;person p" + other, 1, 16);
        }
    }

    @Says(at = "4", value = "they are required only between two words")
    static void spacesBetweenWords() {
        Check.same("two words", Check.told("facts a b;person p").size(0), 2);
        Check.same("one word", Check.told("facts ab;person p").size(0), 1);
        Check.badText("fac ts a;person p", 1, 0);
        Check.badAsk(PAIR, "a an d b", 1, 2);
        Check.badAsk(PAIR, "knowspa", 1, 0);
    }

    @Says(at = "4", value = "In a FORMULA at most 8 parentheses are open at one place.")
    static void parentheses() {
        String open = Check.times("(", 8);
        String close = Check.times(")", 8);
        Check.same("eight", Check.ask(Check.told(PAIR), open + "a" + close), 1);
        Check.same("eight thirty times",
                Check.ask(Check.told(PAIR), Check.times(open + "a" + close + "or", 29) + open + "b" + close), 59);
        Check.same("eight twice", Check.ask(Check.told(PAIR), open + "a" + close + "and" + open + "b" + close), 3);
        Check.same("eight behind not", Check.ask(Check.told(PAIR), Check.times("not(", 8) + "a" + close), 9);
        Check.same("seven, and one, and one",
                Check.ask(Check.told(PAIR), Check.times("(", 7) + "(a)and(b)" + Check.times(")", 7)), 3);
        Check.badAsk(PAIR, open + "(a)" + close, 1, 8);
        Check.badAsk(PAIR, Check.times("not(", 9) + "a" + close + ")", 1, 35);
        Check.badAsk(PAIR, Check.times("(", 7) + "(a)and((b))" + Check.times(")", 7), 1, 14);
        Check.same("a law", Check.told("facts a;law " + open + "a" + close + ";person p").worlds(), 2);
        Check.badText("facts a;law " + open + "(a)" + close + ";person p", 1, 20);
        // Each formula counts for itself, and an error leaves none open.
        WhoKnows x = Check.told(PAIR);
        Check.same("ninth", Check.ask(x, open + "(a"), THROWN);
        String order = "announce " + open + "a" + close + ";";
        Check.same("each order", Check.run(x, order + order), 2);
        for (int times = 0; times < 9; times++) {
            Check.same("open at an error", Check.ask(x, open + "not"), THROWN);
        }
        Check.same("none is open then", Check.ask(x, open + Check.times("not ", 59) + "b" + close), 60);
        Check.same("nothing is lost", x.truth(), 2);
    }

    @Says(at = "4", value = "The text is read from left to right; the first error ends it.")
    static void firstError() {
        Check.badText("facts a a;person ?", 2, 8);
        Check.badText("facts a b c d e f?", 3, 16);
        Check.badText("facts a;person p b ?", 2, 17);
        Check.badText("facts a;law a and not a;person ?", 4, 8);
        Check.badText("facts a;law ? and b;person p p", 1, 12);
        Check.badText("facts a;law b;law a and not a;person p", 2, 12);
        Check.badOrders(PAIR, "round c;round ?;", 2, 6);
        Check.badOrders(PAIR, "round ?;round c;", 1, 6);
        Check.badAsk(PAIR, "c and ?", 2, 0);
        Check.badAsk(PAIR, "? and c", 1, 0);
    }

    @Says(at = "4", value = "Error 1: a byte or word cannot stand at its place (position of its first byte; also a "
            + "word that is too long, a ninth parenthesis)")
    static void misplaced() {
        Check.badText("?", 1, 0);
        Check.badText("fact a;person p", 1, 0);
        Check.badText("facts a;  persons p", 1, 10);
        Check.badText("facts a ; ; person p", 1, 10);
        Check.badText("facts a;person p a  (", 1, 20);
        Check.badText("facts a;  toolong p", 1, 10);
        Check.badText("facts   toolong;person p", 1, 8);
        Check.badText("facts a;person p;real  and", 1, 23);
        Check.badText("facts a;person p;real;", 1, 21);
        Check.badAsk(PAIR, "a  b", 1, 3);
        Check.badAsk(PAIR, "a)", 1, 1);
        Check.badAsk(PAIR, "()", 1, 1);
        Check.badAsk(PAIR, "a and or b", 1, 6);
        Check.badAsk(PAIR, "a;", 1, 1);
        Check.badAsk(PAIR, Check.times("( ", 9) + "a", 1, 16);
        Check.badAsk(PAIR, padded("a", 599) + ")", 1, 599);
        Check.badAsk(PAIR, "\u0000", 1, 0);
        Check.badAsk(PAIR, "a\u00ff", 1, 1);
    }

    @Says(at = "4", value = "or the text ends too early (position: its length)")
    static void endsTooEarly() {
        String[] texts = {"", " ", "facts", "facts ", "facts a", "facts a ", "facts a;", "facts a;law", "facts a;law a",
            "facts a;law not", "facts a;law a and", "facts a;law (a", "facts a;person", "facts a;person  ",
            "facts a;person p;", "facts a;person p;  "};
        for (String text : texts) {
            Check.badText(text, 1, text.length());
        }
        for (String text : new String[] {"", "  ", "not", "knows", "knows p", "maybe p ", "all", "common ", "a and",
            "a or ", "(", "(a", "((a)", "(a and (b)"}) {
            Check.badAsk(PAIR, text, 1, text.length());
        }
        for (String text : new String[] {"announce", "announce a", "announce a ", "say", "say p", "say p a", "whisper",
            "whisper p", "whisper p q", "whisper p that", "whisper p that a", "show", "show p", "show p a", "round",
            "round a", "round a;round a"}) {
            Check.badOrders(PAIR, text, 1, text.length());
        }
        Check.badText(padded("facts a;person", 600), 1, 600);
        Check.badAsk(PAIR, padded("", 600), 1, 600);
        Check.badOrders(PAIR, padded("round a", 600), 1, 600);
    }

    @Says(at = "4", value = "Error 2: a new NAME that another one of its kind has")
    static void namesTaken() {
        Check.badText("facts a a;person p", 2, 8);
        Check.badText("facts a b c d  d;person p", 2, 15);
        Check.badText("facts a;person p;person p", 2, 24);
        Check.badText("facts a;person p a;person  p a", 2, 27);
        Check.same("of another kind", Check.told("facts a;person a a").sees(0), 1);
    }

    @Says(at = "4", value = "a NAME of a fact that a person SEES, or that holds, that was told in this statement "
            + "already")
    static void factsToldTwice() {
        Check.badText("facts a b;person p a a", 2, 21);
        Check.badText("facts a b;person p a b a", 2, 23);
        Check.badText("facts a b c d e;person p a b c d e e", 2, 35);
        Check.badText("facts a b;person p;real a a", 2, 26);
        Check.badText("facts a b;person p;real b a  b", 2, 29);
        Check.same("in another statement", Check.told("facts a b;person p a;person q a b;real a b").sees(1), 3);
    }

    @Says(at = "4", value = "or a NAME that no fact (or person) has (position of it)")
    static void namesOfNone() {
        Check.badText("facts a;law b;person p", 2, 12);
        Check.badText("facts a;person p  b", 2, 18);
        Check.badText("facts a;person p p", 2, 17);
        Check.badText("facts a;person p;real b", 2, 22);
        Check.badText("facts ab;law a;person p", 2, 13);
        Check.badText("facts a;law ab;person p", 2, 12);
        Check.badAsk(PAIR, "a and c", 2, 6);
        Check.badAsk(PAIR, "a and p", 2, 6);
        Check.badAsk(PAIR, "knows r a", 2, 6);
        Check.badAsk(PAIR, "maybe a a", 2, 6);
        Check.badOrders(PAIR, "say r a;", 2, 4);
        Check.badOrders(PAIR, "say a a;", 2, 4);
        Check.badOrders(PAIR, "whisper r that a;", 2, 8);
        Check.badOrders(PAIR, "whisper p r that a;", 2, 10);
        Check.badOrders(PAIR, "show r a;", 2, 5);
        Check.badOrders(PAIR, "show p c;", 2, 7);
        Check.badOrders(PAIR, "show a p;", 2, 5);
        Check.badOrders(PAIR, "round c;", 2, 6);
        Check.badOrders(PAIR, "round p;", 2, 6);
        // Names that another description had are gone.
        WhoKnows x = Check.told("facts sun;person ann");
        Check.read(x, PAIR);
        Check.same("a fact of another description", Check.ask(x, "sun"), THROWN);
        Check.error("a fact of another description", x, 2, 0);
    }

    @Says(at = "4", value = "Error 3: a sixth fact (position of it)")
    static void sixthFact() {
        Check.same("a fifth", Check.told("facts a b c d e;person p").size(0), 5);
        Check.badText("facts a b c d e f;person p", 3, 16);
        Check.badText("facts a b c d e   sixth g;person p", 3, 18);
        Check.badText("facts a b c d e person p", 3, 16);
    }

    @Says(at = "4", value = "a seventh law, a sixth person (position of the statement's first letter)")
    static void seventhLawSixthPerson() {
        String six = "facts a" + Check.times(";law a", 6);
        Check.badText(six + ";law a;person p", 3, 44);
        Check.badText(six + ";   law", 3, 47);
        Check.badText(six + ";law not a;person p", 3, 44);
        Check.badText(six + ";law ?", 3, 44);
        String five = "facts a" + EdgesOfTerms.persons(5, "");
        Check.same("a fifth person", Check.told(five).size(1), 5);
        Check.badText(five + ";person u", 3, 53);
        Check.badText(five + ";  person", 3, 55);
        Check.badText(five + ";person p", 3, 53);
        Check.badText(five + ";person u ?", 3, 53);
        Check.same("real behind five", Check.told(five + ";real a").size(4), 1);
    }

    @Says(at = "4", value = "a 61st of the NODES of a FORMULA (position of its word, found as it is read)")
    static void node61() {
        String fifty9 = Check.times("not ", 59);
        Check.same("60", Check.ask(Check.told(PAIR), fifty9 + "a"), 60);
        Check.badAsk(PAIR, fifty9 + "not a", 3, 240);
        Check.badAsk(PAIR, fifty9 + "a and a", 3, 238);
        Check.badAsk(PAIR, fifty9 + "a or ?", 3, 238);
        Check.badAsk(PAIR, fifty9 + "a  and", 3, 239);
        for (String word : new String[] {"not", "knows", "maybe", "all", "common", "a"}) {
            Check.badAsk(PAIR, fifty9 + "not " + word, 3, 240);
            Check.badAsk(PAIR, fifty9 + "not " + word + " ?", 3, 240);
        }
        Check.badAsk(PAIR, fifty9 + "not (a)", 3, 241);
        Check.same("parentheses are none", Check.ask(Check.told(PAIR), "((" + fifty9 + "((a))))"), 60);
        String law = "facts a;law " + fifty9;
        Check.same("60 of a law", Check.told(law + "a;person p").size(2), 1);
        Check.badText(law + "not a;person p", 3, 252);
        Check.badText(law + "a and a;person p", 3, 250);
        Check.same("60 of each of two", Check.run(Check.told(PAIR),
                "announce " + fifty9 + "b;announce " + fifty9 + "b;"), 2);
        Check.badOrders(PAIR, "announce b;announce " + fifty9 + "b or b;", 3, 258);
    }

    @Says(at = "4", value = "Error 4: a law by which no world is left")
    static void noWorldLeft() {
        Check.badText("facts a;law a and not a;person p", 4, 8);
        Check.badText("facts a;law a;law not a;person p", 4, 14);
        Check.badText("facts a b c d e;law a;law b;law c;law d;law e;law not (a and b and c and d and e);person p", 4,
                46);
        Check.same("one is left", Check.told("facts a b c d e;law a;law b;law c;law d;law not e;person p").worlds(),
                1 << 15);
        Check.same("world 31 is left", Check.told("facts a b c d e;law a and b and c and d and e;person p").size(2), 1);
    }

    @Says(at = "4", value = "or real that tells a world that is not left")
    static void realNotLeft() {
        Check.badText("facts a b;law a or b;person p;real", 4, 30);
        Check.badText("facts a b;law a or b;person p;  real", 4, 32);
        Check.badText("facts a b;law not (a and b);person p;real b a", 4, 37);
        Check.badText("facts a b c d e;law not (a and b and c and d and e);person p;real a b c d e", 4, 61);
        Check.same("left", Check.told("facts a b;law a or b;person p;real b").size(4), 2);
    }

    @Says(at = "4", value = "(position of the statement's first letter; found when all of it was read, ahead of what "
            + "follows it)")
    static void whenAllWasRead() {
        Check.badText("facts a;  law a and not a  ;person p", 4, 10);
        Check.badText("facts a;law a and not a", 4, 8);
        Check.badText("facts a;law a and not a)", 4, 8);
        Check.badText("facts a;law a and not a a", 4, 8);
        Check.badText("facts a;law a and not a?", 4, 8);
        Check.badText("facts a;law (a and not a", 1, 24);
        Check.badText("facts a;law a and not a and", 1, 27);
        Check.badText("facts a;law a and not a or b", 2, 27);
        Check.badText("facts a;law a and not a or ?", 1, 27);
        Check.same("not by what was read so far", Check.told("facts a;law a and not a or a;person p").worlds(), 2);
        Check.badText("facts a;law a;person p;real;", 4, 23);
        Check.badText("facts a;law a;person p;real?", 4, 23);
        Check.badText("facts a;law a;person p;real b", 2, 28);
        Check.same("not by the facts so far", Check.told("facts a b;law b;person p;real a b").size(4), 3);
        Check.badText("facts a b;law not b;person p;real b b", 2, 36);
    }

    @Says(at = "4", value = "Of several errors at one place the one with the smaller number counts.")
    static void smallerNumber() {
        // 1 ahead of 3: no word that could stand there, though nothing could for another reason, too.
        Check.badText("facts a b c d e not;person p", 1, 16);
        Check.badText("facts a b c d e toolong;person p", 1, 16);
        Check.badAsk(PAIR, Check.times("not ", 60) + "or", 1, 240);
        Check.badAsk(PAIR, Check.times("not ", 60) + "toolong", 1, 240);
        Check.badText("facts a;law " + Check.times("not ", 60) + "all a;person p", 1, 252);
        Check.badOrders(PAIR, Check.times("round a;", 20) + "jump;", 1, 160);
        // 2 ahead of 3.
        Check.badText("facts a b c d e a;person p", 2, 16);
        Check.badAsk(PAIR, Check.times("not ", 60) + "c", 2, 240);
        // 3 ahead of 4.
        Check.badText("facts a" + Check.times(";law a", 6) + ";law not a;person p", 3, 44);
    }

    @Says(at = "4", value = "A new object is as by the text \"facts a;person p\".")
    static void newObjectAsByText() {
        Check.same("all", Check.all(new WhoKnows()), Check.all(Check.told("facts a;person p")));
    }

    @Says(at = "5", value = "Orders are none to 20 statements, each of them followed by a semicolon")
    static void noneToTwentyOrders() {
        WhoKnows x = Check.told(PAIR);
        for (int orders = 0; orders <= 20; orders++) {
            Check.same("orders of " + orders, Check.run(x, Check.times("round a;", orders)), orders);
        }
        Check.same("rounds", x.account(4), 210);
        Check.badOrders(PAIR, Check.times("round a;", 21), 3, 160);
        Check.badOrders(PAIR, "round a", 1, 7);
        Check.badOrders(PAIR, "round a;round b", 1, 15);
        Check.badOrders(PAIR, "round a round b;", 1, 8);
        Check.badOrders(PAIR, ";", 1, 0);
        Check.badOrders(PAIR, "round a;;", 1, 8);
    }

    @Says(at = "5", value = "whisper NAME { NAME } that FORMULA; show NAME NAME (a person, a fact); round NAME (a "
            + "fact)")
    static void formsOfOrders() {
        String five = "facts a b" + EdgesOfTerms.persons(5, "");
        WhoKnows x = Check.told(five);
        Check.same("one hearer", Check.run(x, "whisper t that a;"), 1);
        Check.same("who", x.log(0, 1), 16);
        Check.same("five hearers", Check.run(x, "whisper t p s q r that b;"), 1);
        Check.same("who then", x.log(0, 1), 31);
        Check.same("show", Check.run(x, "show r b;"), 1);
        Check.same("to whom", x.log(0, 1), 4);
        Check.badOrders(five, "whisper that a;", 1, 8);
        Check.badOrders(five, "whisper not a;", 1, 8);
        Check.badOrders(five, "whisper (a);", 1, 8);
        Check.badOrders(five, "whisper p a;", 2, 10);
        Check.badOrders(five, "whisper p;", 1, 9);
        Check.badOrders(five, "show p;", 1, 6);
        Check.badOrders(five, "show p a b;", 1, 9);
        Check.badOrders(five, "show p not a;", 1, 7);
        Check.badOrders(five, "round a b;", 1, 8);
        Check.badOrders(five, "round (a);", 1, 6);
        Check.badOrders(five, "say p;", 1, 5);
        Check.badOrders(five, "say p q a;", 2, 6);
        Check.badOrders(five, "announce;", 1, 8);
    }

    @Says(at = "5", value = "They are the acts of section 3.")
    static void ordersAreActs() {
        WhoKnows x = Check.told(PAIR);
        Check.run(x, "announce a or b;say p a;whisper q that a and b;show q b;round a;");
        WhoKnows y = Check.told(PAIR);
        Check.ask(y, "a or b");
        y.announce();
        Check.ask(y, "a");
        y.say(0);
        Check.ask(y, "a and b");
        y.whisper(2);
        y.show(1, 1);
        y.round(0);
        Check.ask(y, "a");
        Check.same("the same is known", Check.known(x), Check.known(y));
    }

    @Says(at = "5", value = "2: a person that was named in this statement already, too")
    static void hearersNamedTwice() {
        Check.badOrders(PAIR, "whisper p p that a;", 2, 10);
        Check.badOrders(PAIR, "whisper p q  p that a;", 2, 13);
        Check.badOrders("facts a" + EdgesOfTerms.persons(5, ""), "whisper p q r s t t that a;", 2, 18);
        Check.same("in two statements", Check.run(Check.told(PAIR), "whisper p that a;whisper p that a;"), 2);
    }

    @Says(at = "5", value = "3: a 21st statement, position of its first letter")
    static void statement21() {
        String twenty = Check.times("round a;", 20);
        Check.same("twenty", Check.run(Check.told(PAIR), twenty), 20);
        Check.badOrders(PAIR, twenty + "round a;", 3, 160);
        Check.badOrders(PAIR, twenty + "   round", 3, 163);
        for (String word : new String[] {"announce", "say", "whisper", "show", "round"}) {
            Check.badOrders(PAIR, twenty + word + " ?;", 3, 160);
        }
        Check.badOrders(PAIR, twenty + ";", 1, 160);
        // Those that an earlier text had do not count, though it had an error.
        WhoKnows x = Check.told(PAIR);
        Check.same("an error", Check.run(x, twenty + "round"), THROWN);
        Check.same("twenty behind an error", Check.run(x, twenty), 20);
    }

    @Says(at = "5", value = "the first one that is refused ends them (those ahead of it stay done)")
    static void refusedOrder() {
        WhoKnows x = Check.told(PAIR);
        Check.same("a lie", Check.run(x, "round a;announce b;round a;round a;"), 1);
        Check.same("one round", x.account(4), 1);
        Check.same("what is not known", Check.run(x, "round a;round a;say q a;round a;"), 2);
        Check.same("two rounds more", x.account(4), 3);
        Check.same("the first one", Check.run(x, "say p b;round a;"), 0);
        Check.same("no round more", x.account(4), 3);
        Check.same("the last one", Check.run(x, "round a;announce not a;"), 1);
        Check.same("a round more", x.account(4), 4);
        Check.same("whispers are never refused", Check.run(x, "whisper q that not a;show q b;round b;"), 3);
    }

    @Says(at = "Promise 1", value = "with an empty input buffer, an empty output text, and nothing saved")
    static void emptyAtFirst() {
        Check.argument("no byte is there", () -> new WhoKnows().truncate(1));
        Check.same("the first bytes", new WhoKnows().append(0, 0, 0, 0, 0), 20);
        Check.same("no output", new WhoKnows().outputByte(0), NONE);
        Check.state("nothing saved", () -> new WhoKnows().restore());
        WhoKnows x = new WhoKnows();
        Check.same("no orders", x.runOrders(), 0);
        Check.argument("no text", x::readText);
        Check.error("no text", x, 1, 0);
    }

    @Says(at = "Promise 2", value = "Appends bytes to the input buffer: the 4 bytes of each number, the most "
            + "significant byte first.")
    static void bytesOfNumbers() {
        WhoKnows x = new WhoKnows();
        // "facts zyxwvu;person " and "abcdef zyxwvu" with spaces.
        x.append(0x66616374, 0x73207A79, 0x78777675, 0x3B706572, 0x736F6E20);
        Check.same("behind the first ones", x.append(0x61626364, 0x6566207A, 0x79787776, 0x75202020, 0x20202020), 40);
        Check.same("readText", x.readText(), 2);
        Check.same("sees", x.sees(0), 1);
        for (int index = 0; index < 6; index++) {
            Check.same("fact", x.letter(false, 0, index), 'z' - index);
            Check.same("person", x.letter(true, 0, index), 'a' + index);
        }
        // Numbers below 0 and 0 are bytes, too, the highest ones not below 0.
        for (int number : new int[] {0, -1, Integer.MIN_VALUE, Integer.MAX_VALUE}) {
            WhoKnows y = new WhoKnows();
            y.append(number, 0, 0, 0, 0);
            Check.argument("ask", y::ask);
            Check.error("of " + number, y, 1, 0);
        }
        WhoKnows z = Check.told("facts a ab abc;person p");
        int[] numbers = {0x61FFFFFF, 0x61620000, 0x61626380};
        for (int index = 0; index < 3; index++) {
            z.append(numbers[index], 0, 0, 0, 0);
            Check.argument("ask", z::ask);
            Check.error("behind the letters", z, 1, index + 1);
        }
    }

    @Says(at = "Promise 2", value = "Returns the new length of the buffer.")
    static void newLength() {
        WhoKnows x = new WhoKnows();
        for (int length = 20; length <= 600; length += 20) {
            Check.same("length", x.append(0, 0, 0, 0, 0), length);
        }
        x.truncate(7);
        Check.same("behind a cut", x.append(0, 0, 0, 0, 0), 27);
    }

    @Says(at = "Promise 2", value = "Throws `IllegalStateException` if it would exceed 600")
    static void exceeds600() {
        WhoKnows x = new WhoKnows();
        for (int length = 20; length <= 600; length += 20) {
            x.append(0x20202020, 0x20202020, 0x20202020, 0x20202020, 0x20202020);
        }
        for (int length = 600; length >= 581; length--) {
            Check.same("cut", x.truncate(length), length);
            Check.state("at " + length, () -> x.append(0, 0, 0, 0, 0));
            Check.argument("nothing was appended at " + length, () -> x.truncate(600 + 1));
        }
        Check.argument("it is no longer", () -> x.truncate(582));
        x.truncate(580);
        Check.same("at 580", x.append(0x20202020, 0x20202020, 0x20202020, 0x20202020, 0x20202020), 600);
        Check.state("full", () -> x.append(0, 0, 0, 0, 0));
        // What was refused is not in the buffer: all of it is spaces.
        Check.argument("readText", x::readText);
        Check.error("readText", x, 1, 600);
    }

    @Says(at = "Promise 3", value = "Cuts the input buffer.")
    static void cuts() {
        WhoKnows x = new WhoKnows();
        Check.put(x, "facts ab;person pq and what is cut");
        Check.same("to 18", x.truncate(18), 18);
        Check.same("to 18 again", x.truncate(18), 18);
        Check.same("readText", x.readText(), 2);
        Check.same("the last letter is there", x.letter(true, 0, 1), (int) 'q');
        Check.put(x, "facts ab;person pq");
        Check.same("to 17", x.truncate(17), 17);
        Check.same("readText", x.readText(), 2);
        Check.same("the last letter is cut", x.letter(true, 0, 1), NONE);
        Check.put(x, "facts a");
        Check.same("to 0", x.truncate(0), 0);
        Check.put(x, "round ab;");
        Check.same("nothing was ahead of it", x.runOrders(), 1);
        Check.same("to 0 of 0", x.truncate(0), 0);
    }

    @Says(at = "Promise 3", value = "Throws `IllegalArgumentException` if it is negative or greater than the length "
            + "now")
    static void badLengths() {
        WhoKnows x = new WhoKnows();
        for (int length : new int[] {-1, 1, 20, 600, Integer.MIN_VALUE, Integer.MAX_VALUE}) {
            Check.argument("of an empty one to " + length, () -> x.truncate(length));
        }
        Check.put(x, "round a;");
        for (int length : new int[] {-1, 9, 20, 600, Integer.MIN_VALUE, Integer.MAX_VALUE}) {
            Check.argument("to " + length, () -> x.truncate(length));
        }
        Check.same("it is as long as before", x.truncate(8), 8);
        Check.same("and says the same", x.runOrders(), 1);
        Check.argument("it is empty", () -> x.truncate(1));
    }

    @Says(at = "Promise 4", value = "begins anew: QUESTION is the first fact, the LOG is empty, all accounts are 0, "
            + "no change can be taken back")
    static void beginsAnew() {
        WhoKnows x = Check.told("facts a b c d e" + EdgesOfTerms.persons(5, ""));
        Check.ask(x, "knows t e or not e");
        x.announce();
        x.say(4);
        x.whisper(31);
        x.show(4, 3);
        x.round(0);
        Check.same("PAIR", Check.read(x, PAIR), 4);
        Check.same("all as of a new object", Check.known(x), Check.known(Check.told(PAIR)));
        Check.same("QUESTION", x.truth(), 10);
        Check.same("no act", x.log(0, 0), NONE);
        for (int what = 0; what <= 6; what++) {
            Check.same("account", x.account(what), 0);
        }
        Check.same("no change", x.size(9), 0);
        Check.same("no undo", x.undo(), NONE);
        Check.same("the same text again", Check.read(x, PAIR), 4);
        x.show(1, 0);
        Check.read(x, PAIR);
        Check.same("alike as at first", x.alike(1, 0), 3);
        // Nothing is left of persons that there are no more, who saw none.
        Check.read(x, "facts a b" + EdgesOfTerms.persons(5, ""));
        Check.read(x, "facts a b;person p a b");
        Check.same("knowers", x.knowers(), 1);
        Check.same("reach", x.reach(0), 1);
        Check.same("meanAlike", x.meanAlike(), 1.0);
        Check.same("round", x.round(0), 1);
        Check.ask(x, "all a");
        Check.same("all", x.truth(), 10);
        Check.ask(x, "common a");
        Check.same("common", x.truth(), 10);
    }

    @Says(at = "Promise 4", value = "The buffer is emptied, also on an error.")
    static void textEmptiesBuffer() {
        WhoKnows x = Check.told(PAIR);
        Check.same("behind a text", Check.length(x), 0);
        Check.put(x, "facts a;person p?");
        Check.argument("an error", x::readText);
        Check.same("behind an error", Check.length(x), 0);
        Check.argument("read again", x::readText);
        Check.error("nothing is there", x, 1, 0);
    }

    @Says(at = "Promise 4", value = "The output text and what was saved stay.")
    static void textLeavesOutput() {
        WhoKnows x = Check.told(PAIR);
        x.writeWorld(3);
        x.save();
        Check.read(x, "facts c;person r");
        Check.same("output", Check.output(x), "a+b");
        Check.same("saved", x.restore(), 4);
        Check.same("the facts that were saved", x.size(0), 2);
    }

    @Says(at = "Promise 4", value = "Returns the worlds that are left.")
    static void textReturns() {
        Check.same("one", Check.read(new WhoKnows(), "facts a b c d e;law a and b and c and d and e;person p"), 1);
        Check.same("all", Check.read(new WhoKnows(), "facts a b c d e;person p"), 32);
    }

    @Says(at = "Promise 4", value = "Throws `IllegalArgumentException` if the text has an error; then nothing but "
            + "the buffer and the results of errorCode() and errorPosition() changes")
    static void badTextChangesNothing() {
        String[] texts = {"facts", "facts c d e;law c;person r d;person s;", "facts a a", "facts a b c d e f",
            "facts c;law c and not c", "facts c;law c;person r;real"};
        int[] codes = {1, 1, 2, 3, 4, 4};
        int[] positions = {5, 38, 8, 16, 8, 23};
        for (int index = 0; index < texts.length; index++) {
            WhoKnows x = EdgesOfTerms.asked(PAIR, "knows p a");
            x.announce();
            x.writeQuestion();
            String before = Check.all(x);
            Check.same(texts[index], Check.read(x, texts[index]), THROWN);
            String error = " error " + codes[index] + " " + positions[index];
            Check.same("behind " + texts[index], Check.all(x), before.replace(" error 0 -1", error));
            Check.same("undo behind it", x.undo(), 1);
        }
    }

    @Says(at = "Promise 5", value = "one change, also if none is done")
    static void ordersAreOneChange() {
        WhoKnows x = Check.told(PAIR);
        Check.same("none told", Check.run(x, ""), 0);
        Check.same("a change", x.size(9), 1);
        Check.same("none done", Check.run(x, "announce b;"), 0);
        Check.same("two changes", x.size(9), 2);
        Check.same("twenty", Check.run(x, Check.times("show q a;", 20)), 20);
        Check.same("three changes", x.size(9), 3);
        Check.same("all twenty are taken back", x.undo() + x.size(8) + x.account(3), 2);
        Check.same("those of none, too", x.undo(), 1);
        Check.same("all", x.undo(), 0);
    }

    @Says(at = "Promise 5", value = "The buffer is emptied, also on an error.")
    static void ordersEmptyBuffer() {
        WhoKnows x = Check.told(PAIR);
        Check.run(x, "round a;");
        Check.same("behind orders", Check.length(x), 0);
        Check.run(x, "announce b;round a;");
        Check.same("behind a lie", Check.length(x), 0);
        Check.run(x, "round a;round");
        Check.same("behind an error", Check.length(x), 0);
        Check.same("nothing is there", x.runOrders(), 0);
    }

    @Says(at = "Promise 5", value = "Returns how many were done.")
    static void ordersReturn() {
        Check.same("none", Check.run(Check.told(PAIR), ""), 0);
        Check.same("all", Check.run(Check.told(PAIR), "round a;round b;"), 2);
        Check.same("not the refused one", Check.run(Check.told(PAIR), "round a;announce b;"), 1);
    }

    @Says(at = "Promise 5", value = "Throws `IllegalArgumentException` if the text has an error; then nothing but "
            + "the buffer and the results of errorCode() and errorPosition() changes")
    static void badOrdersChangeNothing() {
        String[] texts = {"announce a;show q a;round a;?", "announce a;round c;", Check.times("show q a;", 21)};
        int[] codes = {1, 2, 3};
        int[] positions = {28, 17, 180};
        for (int index = 0; index < texts.length; index++) {
            WhoKnows x = EdgesOfTerms.asked(PAIR, "knows p a");
            x.round(0);
            x.writeQuestion();
            String before = Check.all(x);
            Check.same(texts[index], Check.run(x, texts[index]), THROWN);
            String error = " error " + codes[index] + " " + positions[index];
            Check.same("behind " + texts[index], Check.all(x), before.replace(" error 0 -1", error));
            Check.same("undo behind it", x.undo(), 1);
        }
    }

    @Says(at = "Promise 6", value = "Reads the input buffer as a FORMULA and nothing else, which is QUESTION then (a "
            + "change).")
    static void asking() {
        WhoKnows x = Check.told(PAIR);
        Check.same("nodes", Check.ask(x, "not b"), 2);
        Check.same("QUESTION", x.truth(), 3);
        Check.same("a change", x.size(9), 1);
        Check.same("the same once more", Check.ask(x, "not b"), 2);
        Check.same("a change, too", x.size(9), 2);
        Check.same("taken back", x.undo() + x.undo(), 1);
        Check.same("the first fact again", x.truth(), 10);
        Check.badAsk(PAIR, "a;", 1, 1);
        Check.badAsk(PAIR, "a a", 1, 2);
        Check.badAsk(PAIR, "a)", 1, 1);
        Check.badAsk(PAIR, "announce a", 1, 0);
    }

    @Says(at = "Promise 6", value = "The buffer is emptied, also on an error.")
    static void askEmptiesBuffer() {
        WhoKnows x = Check.told(PAIR);
        Check.ask(x, "b");
        Check.same("behind a question", Check.length(x), 0);
        Check.ask(x, "b b");
        Check.same("behind an error", Check.length(x), 0);
        Check.argument("nothing is there", x::ask);
        Check.error("nothing is there", x, 1, 0);
    }

    @Says(at = "Promise 6", value = "Returns its NODES.")
    static void askReturns() {
        Check.same("one", Check.ask(Check.told(PAIR), "((b))"), 1);
        Check.same("60", Check.ask(Check.told(PAIR), Check.times("all ", 59) + "b"), 60);
    }

    @Says(at = "Promise 6", value = "Throws `IllegalArgumentException` if the text has an error (as in section 4); "
            + "then nothing but the buffer and the results of errorCode() and errorPosition() changes")
    static void badAskChangesNothing() {
        String[] texts = {"", "b and", "b and c", Check.times("not ", 60) + "b"};
        int[] codes = {1, 1, 2, 3};
        int[] positions = {0, 5, 6, 240};
        for (int index = 0; index < texts.length; index++) {
            WhoKnows x = EdgesOfTerms.asked(PAIR, "knows p a");
            x.round(0);
            x.writeQuestion();
            String before = Check.all(x);
            Check.same("\"" + texts[index] + "\"", Check.ask(x, texts[index]), THROWN);
            String error = " error " + codes[index] + " " + positions[index];
            Check.same("behind \"" + texts[index] + "\"", Check.all(x), before.replace(" error 0 -1", error));
            x.writeQuestion();
            Check.same("QUESTION", Check.output(x), "knows p a");
        }
    }

    @Says(at = "Promise 7", value = "Returns the kind of the error of the latest call of readText(), runOrders() or "
            + "ask().")
    static void latestErrorCode() {
        WhoKnows x = Check.told(PAIR);
        Check.ask(x, "c");
        Check.same("ask", x.errorCode(), 2);
        Check.argument("another call that throws", () -> x.size(10));
        x.save();
        x.restore();
        x.round(0);
        x.undo();
        Check.same("other calls", x.errorCode(), 2);
        Check.run(x, "round ?;");
        Check.same("runOrders", x.errorCode(), 1);
        Check.read(x, "facts a b c d e f");
        Check.same("readText", x.errorCode(), 3);
    }

    @Says(at = "Promise 7", value = "Returns 1 to 4; 0 if its text had no error or there was no such call.")
    static void errorCodes() {
        Check.same("no such call", new WhoKnows().errorCode(), 0);
        String[] texts = {"?", "facts a a", "facts a b c d e f", "facts a;law a and not a"};
        for (int index = 0; index < texts.length; index++) {
            WhoKnows x = new WhoKnows();
            Check.read(x, texts[index]);
            Check.same(texts[index], x.errorCode(), index + 1);
            Check.read(x, PAIR);
            Check.same("a text behind " + texts[index], x.errorCode(), 0);
        }
        WhoKnows y = Check.told(PAIR);
        Check.ask(y, "?");
        Check.run(y, "announce b;");
        Check.same("a lie is no error", y.errorCode(), 0);
        Check.run(y, "?");
        Check.ask(y, "b");
        Check.same("a question", y.errorCode(), 0);
    }

    @Says(at = "Promise 8", value = "Returns the position of the error of the latest call of readText(), runOrders() "
            + "or ask().")
    static void latestErrorPosition() {
        WhoKnows x = Check.told(PAIR);
        Check.ask(x, "b and c");
        Check.same("ask", x.errorPosition(), 6);
        x.append(0, 0, 0, 0, 0);
        x.truncate(0);
        x.round(0);
        x.undo();
        Check.same("other calls", x.errorPosition(), 6);
        Check.run(x, "round ?;");
        Check.same("runOrders", x.errorPosition(), 6);
        Check.run(x, "?");
        Check.same("the first byte", x.errorPosition(), 0);
        Check.read(x, padded("facts a;person", 600));
        Check.same("behind the last byte", x.errorPosition(), 600);
    }

    @Says(at = "Promise 8", value = "Returns the position; NONE if its text had no error or there was no such call.")
    static void errorPositions() {
        Check.same("no such call", new WhoKnows().errorPosition(), NONE);
        WhoKnows x = new WhoKnows();
        Check.read(x, "?");
        Check.same("an error at 0", x.errorPosition(), 0);
        Check.read(x, PAIR);
        Check.same("readText", x.errorPosition(), NONE);
        Check.ask(x, "b?");
        Check.run(x, "announce b;");
        Check.same("runOrders", x.errorPosition(), NONE);
        Check.run(x, "round b?");
        Check.ask(x, "b");
        Check.same("ask", x.errorPosition(), NONE);
    }
}
