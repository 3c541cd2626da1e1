import java.util.function.ToIntFunction;

/** Tests of single sentences: how long an object is used, and the terms of sections 1, 2, 3 and 6. */
final class EdgesOfTerms {
    private static final int NONE = WhoKnows.NONE;
    private static final int LOWEST = Integer.MIN_VALUE;
    /** Worlds 0 to 3 are left, REAL is 1. Alike are for p 0 2, 1 3; for q 0 1, 2 3. */
    private static final String PAIR = "facts a b;person p a;person q b;real a";
    /** All 32 worlds are left, REAL is 0; p tells none of them apart. */
    private static final String FULL = "facts a b c d e;person p";
    /** The worlds 0, 16, 24, 28, 30, 31 are left, REAL is 0; only neighbours are alike, for t, s, r, q, p. */
    private static final String CHAIN = "facts a b c d e;"
            + "law (not a or b) and (not b or c) and (not c or d) and (not d or e);"
            + "person p b c d e;person q a c d e;person r a b d e;person s a b c e;person t a b c d";

    private EdgesOfTerms() {
    }

    static WhoKnows asked(String description, String question) {
        WhoKnows x = Check.told(description);
        Check.same("ask of " + question + " throws", Check.ask(x, question) instanceof String, false);
        return x;
    }

    private static int truth(String description, String question) {
        return asked(description, question).truth();
    }

    /** "facts a b c" and so on. */
    static String facts(int count) {
        return "facts a b c d e".substring(0, 5 + 2 * count);
    }

    /** ";person p;person q" and so on, each of whom sees the same. */
    static String persons(int count, String seen) {
        StringBuilder text = new StringBuilder();
        for (int person = 0; person < count; person++) {
            text.append(";person ").append((char) ('p' + person)).append(seen);
        }
        return text.toString();
    }

    @Says(at = "What it is", value = "An object is used for at most 512 calls after it has been made")
    static void calls512() {
        WhoKnows x = new WhoKnows();
        for (int call = 1; call <= 511; call++) {
            x.show(0, 0);
        }
        Check.same("the 512th call", x.account(3), 511);
        WhoKnows y = new WhoKnows();
        int last = 0;
        for (int call = 1; call <= 511; call += 2) {
            // "facts a b;person q a"
            y.append(0x66616374, 0x73206120, 0x623b7065, 0x72736f6e, 0x20712061);
            last = y.readText();
        }
        Check.same("a 256th description", last, 4);
        WhoKnows z = new WhoKnows();
        for (int call = 1; call <= 511; call++) {
            z.runOrders();
        }
        Check.same("behind 511 orders of none", z.undo(), 7);
    }

    @Says(at = "Terms", value = "Facts and persons are numbered from 0, in the order in which they were told.")
    static void numbered() {
        WhoKnows x = Check.told("facts d b e;person z b;person y e;person x d");
        Check.same("fact 0", x.letter(false, 0, 0), (int) 'd');
        Check.same("fact 1", x.letter(false, 1, 0), (int) 'b');
        Check.same("fact 2", x.letter(false, 2, 0), (int) 'e');
        Check.same("person 0", x.letter(true, 0, 0), (int) 'z');
        Check.same("person 1", x.letter(true, 1, 0), (int) 'y');
        Check.same("person 2", x.letter(true, 2, 0), (int) 'x');
        Check.same("person 0 sees fact 1", x.sees(0), 2);
        Check.same("person 2 sees fact 0", x.sees(2), 1);
    }

    @Says(at = "Terms", value = "bit k is 1 for the one with the number k (a set of worlds can be below 0, by its "
            + "bit 31)")
    static void setsAsNumbers() {
        WhoKnows x = Check.told("facts a b c d e;law a and b and c and d and e" + persons(5, " a b c d e"));
        Check.same("world 31 alone", x.worlds(), LOWEST);
        Check.same("its number", x.size(4), 31);
        Check.same("alike", x.alike(4, 31), LOWEST);
        Check.same("reach", x.reach(31), LOWEST);
        Check.same("truth", x.truth(), LOWEST);
        Check.same("five persons", x.knowers(), 31);
        Check.same("five facts", x.sees(0), 31);
        Check.same("all worlds", Check.told(FULL).worlds(), -1);
        WhoKnows y = asked(FULL, "not (a and b and c and d and e)");
        y.announce();
        Check.same("all but 31", y.worlds(), Integer.MAX_VALUE);
        Check.same("31 is ruled out", y.log(0, 2), LOWEST);
        Check.same("one is left less", y.size(2), 31);
    }

    @Says(at = "1", value = "There are 1 to 5 facts.")
    static void oneToFiveFacts() {
        Check.badText("facts;person p", 1, 5);
        for (int count = 1; count <= 5; count++) {
            WhoKnows x = Check.told(facts(count) + ";person p");
            Check.same("facts of " + count, x.size(0), count);
            Check.same("worlds of " + count, x.size(2), 1 << count);
            Check.same("the last one of " + count, x.letter(false, count - 1, 0), 'a' + count - 1);
        }
        Check.badText("facts a b c d e f;person p", 3, 16);
    }

    @Says(at = "1", value = "A world has a number from 0 on, below 2 to the power of the facts")
    static void worldNumbers() {
        for (int count = 1; count <= 5; count++) {
            WhoKnows x = Check.told(facts(count) + ";person p");
            int end = 1 << count;
            Check.indexBelow("alike, " + end, end, world -> x.alike(0, world));
            Check.indexBelow("reach, " + end, end, world -> x.reach(world));
            Check.indexBelow("steps from, " + end, end, world -> x.steps(world, 0));
            Check.indexBelow("steps to, " + end, end, world -> x.steps(0, world));
            Check.indexBelow("holds, " + end, end, world -> x.holds(world));
            Check.indexBelow("writeWorld, " + end, end, world -> x.writeWorld(world));
            // All worlds below the end are left, and no others.
            Check.same("worlds, " + end, x.worlds(), count == 5 ? -1 : (1 << end) - 1);
        }
    }

    @Says(at = "1", value = "bit k tells whether the fact k holds in it")
    static void bitsOfWorlds() {
        int[] holding = {0xAAAAAAAA, 0xCCCCCCCC, 0xF0F0F0F0, 0xFF00FF00, 0xFFFF0000};
        for (int fact = 0; fact < 5; fact++) {
            Check.same("fact " + fact, truth(FULL, "" + (char) ('a' + fact)), holding[fact]);
        }
    }

    @Says(at = "1", value = "Laws tell which worlds are left at first.")
    static void lawsAndWorlds() {
        Check.same("no law", Check.told("facts a b c;person p").worlds(), 255);
        Check.same("a law that all keep", Check.told("facts a b c;law a or not a;person p").worlds(), 255);
        WhoKnows x = Check.told("facts a b c;law a;law not b;law not c;person p");
        Check.same("laws that one world keeps", x.worlds(), 2);
        Check.same("worlds at first", x.size(3), 1);
        Check.same("each law counts", Check.told("facts a b c;law a;law a or b;person p").worlds(), 0xAA);
    }

    @Says(at = "1", value = "REAL is one of the worlds that are left, always.")
    static void realIsLeft() {
        WhoKnows x = Check.told(CHAIN.replace("person t a b c d", "person t a b c d;real d e"));
        ToIntFunction<WhoKnows> isLeft = one -> one.worlds() >>> one.size(4) & 1;
        Check.same("at first", isLeft.applyAsInt(x), 1);
        Check.same("orders", Check.run(x, "announce e;round c;say p d;round a;round b;round c;round d;round e;"), 8);
        Check.same("then", isLeft.applyAsInt(x), 1);
        Check.same("REAL is the same", x.size(4), 24);
        Check.ask(x, "a or c or not e");
        Check.same("a lie", x.announce(), -1);
        Check.ask(x, "d and e and not a and not b and not c");
        Check.same("what singles it out", x.announce(), 1);
        Check.same("it alone", x.worlds(), 1 << 24);
        Check.badText("facts a;law a;person p;real", 4, 23);
        Check.same("without real", Check.told("facts a b;law b and not a;person p").size(4), 2);
    }

    @Says(at = "1", value = "There are 1 to 5 persons; each one SEES some facts, perhaps none.")
    static void oneToFivePersons() {
        Check.badText("facts a", 1, 7);
        Check.badText("facts a;law a", 1, 13);
        for (int count = 1; count <= 5; count++) {
            WhoKnows x = Check.told("facts a b" + persons(count, ""));
            Check.same("persons of " + count, x.size(1), count);
            Check.same("none is seen", x.sees(count - 1), 0);
            Check.same("all know what all hold", x.whisper((1 << count) - 1), 4 * count);
        }
        Check.badText("facts a" + persons(6, ""), 3, 53);
        Check.same("one is seen", Check.told("facts a b c d e;person p e").sees(0), 16);
        Check.same("all are seen", Check.told("facts a b c d e;person p e d c b a").sees(0), 31);
    }

    @Says(at = "1", value = "ALIKE for a person at first if the facts that it SEES hold in both or in none of both, "
            + "each of them")
    static void alikeAtFirst() {
        WhoKnows x = Check.told("facts a b c;law not (a and b and c);person p;person q a b c;person r b;person s a c");
        Check.same("none is seen", x.alike(0, 0), 127);
        for (int world = 0; world < 7; world++) {
            Check.same("all are seen, " + world, x.alike(1, world), 1 << world);
        }
        Check.same("in none of both", x.alike(2, 0), 1 | 2 | 16 | 32);
        Check.same("in both", x.alike(2, 6), 4 | 8 | 64);
        // Of a and c, 1 has only a and 4 only c: one of two that agrees is not enough.
        Check.same("each of them: none", x.alike(3, 0), 1 | 4);
        Check.same("each of them: a", x.alike(3, 1), 2 | 8);
        Check.same("each of them: c", x.alike(3, 4), 16 | 64);
        Check.same("each of them: both", x.alike(3, 5), 32);
    }

    @Says(at = "1", value = "(A world is ALIKE to itself, as long as it is left; one that is ruled out is ALIKE to "
            + "none.)")
    static void alikeToItself() {
        WhoKnows x = Check.told("facts a b;law a or b;person p a b;person q");
        Check.same("itself", x.alike(0, 1), 2);
        Check.same("ruled out at first", x.alike(0, 0), 0);
        Check.same("ruled out at first, seeing none", x.alike(1, 0), 0);
        x.announce();
        Check.same("ruled out then", x.alike(0, 2), 0);
        Check.same("ruled out then, seeing none", x.alike(1, 2), 0);
        Check.same("none is alike to it", x.alike(1, 3), 10);
        Check.same("itself still", x.alike(0, 3), 8);
    }

    @Says(at = "1", value = "one comes to it in steps, none or more, each from a world to one that is ALIKE to it "
            + "for some person")
    static void reachedInSteps() {
        Check.same("no step", Check.told("facts a b;person p a b").reach(2), 4);
        WhoKnows one = Check.told("facts a b;person p a");
        Check.same("one step", one.reach(0), 5);
        Check.same("one step, the other ones", one.reach(3), 10);
        WhoKnows x = Check.told(CHAIN);
        Check.same("five steps, by five persons", x.reach(0), 1 | 1 << 16 | 1 << 24 | 1 << 28 | 1 << 30 | LOWEST);
        // Without the middle the ends are not reached from each other.
        Check.ask(x, "c or not d");
        x.announce();
        Check.same("up to the gap", x.reach(0), 1 | 1 << 16);
        Check.same("beyond the gap", x.reach(31), 1 << 28 | 1 << 30 | LOWEST);
        Check.same("the gap", x.reach(24), 0);
    }

    @Says(at = "2", value = "A FORMULA is TRUE or not in each world that is left.")
    static void trueInWorldsLeft() {
        String law = "facts a b;law a or not b;person p";
        Check.same("what always holds", truth(law, "a or not a"), 11);
        Check.same("what is not", truth(law, "not (a and b)"), 3);
        Check.same("what is not known", truth(law, "not knows p a"), 11);
        Check.same("what may not be", truth(law, "not maybe p (b and not a)"), 11);
        WhoKnows x = asked("facts a b;person p", "not a");
        x.announce();
        Check.same("where it was ruled out", x.truth(), 5);
        Check.same("it holds where it is left", x.holds(0), true);
        Check.ask(x, "a or not a");
        Check.same("nothing is TRUE where it is not left", x.truth(), 5);
    }

    @Says(at = "2", value = "FORMULA = PART { \"or\" PART }; PART = ITEM { \"and\" ITEM }")
    static void joins() {
        String three = "facts a b c;person p";
        Check.same("a part alone", truth(three, "a"), 0xAA);
        Check.same("and ahead of or", truth(three, "a or b and c"), 0xEA);
        Check.same("and ahead of or, the other way", truth(three, "a and b or c"), 0xF8);
        Check.same("not is of one item", truth(three, "not a and b"), 0x44);
        Check.same("knows is of one item", truth(three, "knows p (a or not a) and b"), 0xCC);
        Check.same("parentheses", truth(three, "(a or b) and c"), 0xE0);
    }

    @Says(at = "2", value = "A FACT is TRUE in a world in which it holds; not, and, or as usual.")
    static void factsAndJoins() {
        Check.same("fact", truth(PAIR, "b"), 12);
        Check.same("not", truth(PAIR, "not b"), 3);
        Check.same("not not", truth(PAIR, "not not b"), 12);
        Check.same("and", truth(PAIR, "a and b"), 8);
        Check.same("or, of both, too", truth(PAIR, "a or b"), 14);
        Check.same("never", truth(PAIR, "a and not a"), 0);
    }

    @Says(at = "2", value = "knows P f is TRUE in a world if f is TRUE in all worlds that are ALIKE to it for P")
    static void knows() {
        Check.same("in all", truth(FULL, "knows p (a or not a)"), -1);
        Check.same("in all but one", truth(FULL, "knows p (a or b or c or d or e)"), 0);
        Check.same("in all that are alike", truth(PAIR, "knows p a"), 10);
        Check.same("not in itself", truth(PAIR, "knows q (a or b)"), 12);
        Check.same("of one that knows all", truth("facts a b;person p a b", "knows p b"), 12);
    }

    @Says(at = "2", value = "maybe P f, if f is TRUE in at least one of these")
    static void maybe() {
        Check.same("in one", truth(FULL, "maybe p (a and b and c and d and e)"), -1);
        Check.same("in none", truth(FULL, "maybe p (a and not a)"), 0);
        Check.same("in one of those that are alike", truth(PAIR, "maybe p (a and b)"), 10);
        Check.same("of one that knows all", truth("facts a b;person p a b", "maybe p b"), 12);
        WhoKnows x = Check.told("facts a b;person p");
        x.show(0, 0);
        Check.ask(x, "maybe p a");
        Check.same("no longer of the others", x.truth(), 10);
    }

    @Says(at = "2", value = "all f, if knows P f is TRUE in it for all persons P")
    static void all() {
        Check.same("the first one does not", truth("facts a b;person o" + persons(4, " a"), "all a"), 0);
        Check.same("the fifth one does not", truth("facts a b" + persons(4, " a") + ";person u", "all a"), 0);
        Check.same("all five do", truth("facts a b" + persons(5, " a"), "all a"), 10);
        Check.same("one alone", truth("facts a b;person p b", "all b"), 12);
    }

    @Says(at = "2", value = "common f, if f is TRUE in all worlds that are REACHED from it")
    static void common() {
        String notLast = "not (a and b and c and d and e)";
        Check.same("not in one that is five steps away", truth(CHAIN, "common " + notLast), 0);
        Check.same("four times all", truth(CHAIN, "all all all all " + notLast), 1);
        Check.same("five times all", truth(CHAIN, "all all all all all " + notLast), 0);
        Check.same("in all", truth(CHAIN, "common (a or not a)"), Check.told(CHAIN).worlds());
        Check.same("not where it is not reached", truth("facts a b;person p a;person q a", "common a"), 10);
        Check.same("not in itself", truth(PAIR, "common a"), 0);
    }

    @Says(at = "2", value = "each FACT, not, knows, maybe, all, common, and, or (between two) is one; at most 60")
    static void nodes() {
        String[] texts = {"a", "not a", "knows p a", "maybe p a", "all a", "common a", "a and a", "a or a", "((a))"};
        int[] nodes = {1, 2, 2, 2, 2, 2, 3, 3, 1};
        WhoKnows x = Check.told(PAIR);
        for (int index = 0; index < texts.length; index++) {
            Check.same("nodes of " + texts[index], Check.ask(x, texts[index]), nodes[index]);
            Check.same("size(5) of " + texts[index], x.size(5), nodes[index]);
        }
        for (String word : new String[] {"not ", "knows p ", "maybe p ", "all ", "common "}) {
            WhoKnows y = Check.told(PAIR);
            Check.same("60 nodes of " + word, Check.ask(y, Check.times(word, 59) + "a"), 60);
            Check.same("size(5) of " + word, y.size(5), 60);
            Check.badAsk(PAIR, Check.times(word, 60) + "a", 3, 60 * word.length());
        }
        // All 60 are kept, the first one and the last one, too.
        WhoKnows x60 = asked("facts a b;person p;person q", Check.times("(", 8) + Check.times("knows q ", 59) + "b"
                + Check.times(")", 8));
        x60.writeQuestion();
        Check.same("60 nodes, written", Check.output(x60), Check.times("knows q ", 59) + "b");
        for (String word : new String[] {" and ", " or "}) {
            WhoKnows y = Check.told(PAIR);
            Check.same("60 nodes of" + word, Check.ask(y, Check.times("a" + word, 29) + "not a"), 60);
            Check.badAsk(PAIR, Check.times("a" + word, 30) + "a", 3, 30 * (word.length() + 1));
            Check.badAsk(PAIR, Check.times("a" + word, 29) + "not a" + word + "a", 3, 29 * (word.length() + 1) + 6);
        }
    }

    @Says(at = "2", value = "DEPTH: 0 of a FACT; of knows, maybe, all, common 1 more than that of what is behind; of "
            + "others that of the deepest one in them.")
    static void depth() {
        String[] texts = {"a", "not not a", "a and b or a", "knows p a", "maybe p a", "all a", "common a",
            "not knows p not a", "a and all b", "all a and b", "a or all all b", "all all a or all b",
            "all (a or all b) and all a", Check.times("all ", 59) + "a", Check.times("not ", 59) + "a"};
        int[] depths = {0, 0, 0, 1, 1, 1, 1, 1, 1, 1, 2, 2, 2, 59, 0};
        WhoKnows x = Check.told(PAIR);
        for (int index = 0; index < texts.length; index++) {
            Check.ask(x, texts[index]);
            Check.same("depth of " + texts[index], x.size(6), depths[index]);
        }
    }

    @Says(at = "2", value = "QUESTION is a FORMULA; the first fact, at first.")
    static void questionAtFirst() {
        WhoKnows x = asked("facts rain b;person p", "not b");
        Check.read(x, "facts sun c;person p");
        Check.same("nodes", x.size(5), 1);
        Check.same("truth", x.truth(), 10);
        x.writeQuestion();
        Check.same("text", Check.output(x), "sun");
        WhoKnows y = new WhoKnows();
        y.writeQuestion();
        Check.same("of a new object", Check.output(y), "a");
    }

    @Says(at = "3", value = "To announce a FORMULA: all worlds in which it is not TRUE are ruled out.")
    static void announcing() {
        WhoKnows x = asked(PAIR, "a or not a");
        Check.same("none is ruled out", x.announce(), 4);
        Check.same("it is an act still", x.size(8), 1);
        Check.same("of no world", x.log(0, 2), 0);
        Check.ask(x, "not (a and b)");
        Check.same("one is ruled out", x.announce(), 3);
        Check.same("which one", x.worlds(), 7);
        WhoKnows y = asked(FULL, "not a and not b and not c and not d and not e");
        Check.same("all but REAL are ruled out", y.announce(), 1);
        Check.same("REAL alone", y.worlds(), 1);
        Check.same("31 worlds", y.account(5), 31);
        Check.same("once more", y.announce(), 1);
        Check.same("none more", y.account(5), 31);
    }

    @Says(at = "3", value = "It is a lie (refused for 1) if it is not TRUE in REAL.")
    static void lie() {
        Check.same("TRUE in all but REAL", asked(PAIR, "not a or b").announce(), -1);
        Check.same("TRUE in none", asked(PAIR, "a and not a").announce(), -1);
        Check.same("TRUE in REAL alone", asked(PAIR, "a and not b").announce(), 1);
        WhoKnows x = asked(PAIR, "not a or b");
        x.announce();
        Check.same("a lie rules nothing out", x.worlds(), 15);
    }

    @Says(at = "3", value = "all worlds in which this person does not know it are ruled out (that is, the others are "
            + "left in which knows of it is TRUE)")
    static void saying() {
        // a or b is TRUE in 1, 2, 3; p knows it in 1 and 3, not in 2, where b is TRUE by chance.
        WhoKnows x = asked(PAIR, "a or b");
        Check.same("where it is not known", x.say(0), 2);
        Check.same("which are left", x.worlds(), 10);
        WhoKnows y = asked(PAIR, "a or not a");
        Check.same("known in all", y.say(1), 4);
        WhoKnows z = asked("facts a b;person p a b;person q;real a", "a and not b");
        Check.same("known in REAL alone", z.say(0), 1);
        Check.same("REAL", z.worlds(), 2);
    }

    @Says(at = "3", value = "Refused for 1 if it is not TRUE in REAL, for 2 if the person does not know it there.")
    static void refusedSayings() {
        Check.same("TRUE, and known", asked(PAIR, "a").say(0), 2);
        Check.same("TRUE, and not known", asked(PAIR, "a").say(1), -2);
        Check.same("not TRUE, and known not to be", asked(PAIR, "not a").say(0), -1);
        Check.same("not TRUE, and not known not to be", asked(PAIR, "not a").say(1), -1);
        Check.same("known elsewhere", asked(PAIR, "not a or b").say(0), -1);
    }

    @Says(at = "3", value = "two worlds are ALIKE no longer for each of them if it is TRUE in one and not in the "
            + "other")
    static void whispering() {
        WhoKnows x = asked("facts a b;person p;person q;person r", "a and b");
        Check.same("one apart from three, for two", x.whisper(5), 6);
        Check.same("TRUE in both", x.alike(0, 3), 8);
        Check.same("TRUE in none of both", x.alike(0, 1), 7);
        Check.same("for the other one, too", x.alike(2, 0), 7);
        Check.same("not for the one who is not told", x.alike(1, 0), 15);
        Check.same("what is TRUE in all", asked(PAIR, "a or not a").whisper(3), 0);
        Check.same("what is TRUE in none", asked(PAIR, "a and not a").whisper(3), 0);
    }

    @Says(at = "3", value = "(All see who is told, and of what; whether it is TRUE they learn alone.)")
    static void seenWhispers() {
        WhoKnows x = asked("facts a;person p;person q", "a");
        Check.same("what is not TRUE is not refused", x.whisper(1), 1);
        Check.same("no world is ruled out", x.worlds(), 3);
        Check.same("p learns that it is not", x.knowsFact(0, 0), 0);
        Check.same("q does not", x.knowsFact(1, 0), NONE);
        Check.ask(x, "common (knows p a or knows p not a)");
        Check.same("all know that p knows", x.truth(), 3);
    }

    @Says(at = "3", value = "To show a fact to a person is to whisper it to this one alone.")
    static void showing() {
        for (int fact = 0; fact < 2; fact++) {
            WhoKnows x = asked("facts a b;person p;person q;person r", fact == 0 ? "a" : "b");
            WhoKnows y = asked("facts a b;person p;person q;person r", fact == 0 ? "a" : "b");
            Check.same("as many pairs", x.show(1, fact), y.whisper(2));
            for (int person = 0; person < 3; person++) {
                Check.same("the same are alike", x.alike(person, 2), y.alike(person, 2));
            }
            Check.same("the same set in the LOG", x.log(0, 1), y.log(0, 1));
            Check.same("not for the others", x.alike(0, 0) & x.alike(2, 0), 15);
        }
    }

    @Says(at = "3", value = "all persons tell at once whether they know whether it holds (they know that it does, or "
            + "that it does not)")
    static void tellingAtOnce() {
        Check.same("that it does", Check.told(PAIR).round(0), 1);
        Check.same("that it does not", Check.told(PAIR).round(1), 2);
        Check.same("none", Check.told("facts a b" + persons(5, " b")).round(0), 0);
        Check.same("all", Check.told("facts a b" + persons(5, " a")).round(0), 31);
        // Where p knows that it does not, p knows, too: these worlds stay.
        WhoKnows x = Check.told(PAIR);
        x.round(0);
        Check.same("both ways of knowing", x.worlds(), 15);
        WhoKnows y = Check.told("facts a b c d e;person p a b c d e");
        Check.same("in all 32", y.round(0), 1);
        Check.same("all 32 stay", y.worlds(), -1);
    }

    @Says(at = "3", value = "All worlds are ruled out in which the set of those who know this is another one than in "
            + "REAL.")
    static void anotherSet() {
        // p tells b, q tells c: a is known in 3 by p, in 4 by q, in 0 and 1 by none.
        WhoKnows x = Check.told("facts a b c;law a and b and not c or not b and not (a and c);"
                + "person p b;person q c;real a b");
        Check.same("worlds", x.worlds(), 27);
        Check.same("p alone knows", x.round(0), 1);
        Check.same("another set of as many goes, too", x.worlds(), 8);
        Check.same("three worlds", x.log(0, 2), 19);
        WhoKnows y = Check.told("facts a b c;law a and b and not c or not b and not (a and c);"
                + "person p b;person q c");
        Check.same("nobody knows", y.round(0), 0);
        Check.same("where somebody knows is ruled out", y.worlds(), 3);
    }

    @Says(at = "3", value = "What is TRUE is always asked as it is ahead of the act.")
    static void aheadOfTheAct() {
        WhoKnows x = asked(PAIR, "a and not knows q a");
        Check.same("q does not know ahead of it", x.announce(), 2);
        Check.same("worlds", x.worlds(), 10);
        Check.same("q knows behind it", x.announce(), -1);
        WhoKnows y = asked(PAIR, "a and not knows q a");
        Check.same("said", y.say(0), 2);
        Check.same("not once more", y.say(0), -1);
        // p learns b by the whisper itself, so that it would be TRUE nowhere for q who is told it at once.
        WhoKnows z = asked("facts a b;person p a;person q a", "b and not knows p b");
        Check.same("for all hearers as ahead of it", z.whisper(3), 4);
        Check.same("TRUE nowhere then", z.truth(), 0);
        Check.same("orders, each ahead of itself",
                Check.run(Check.told(PAIR), "announce a and not knows q a;announce knows q a;round a;"), 3);
        Check.same("orders, not ahead of all",
                Check.run(Check.told(PAIR), "announce a;announce not knows q a;round a;"), 1);
    }

    @Says(at = "3", value = "The LOG keeps the latest 20 acts that were done.")
    static void latestTwenty() {
        WhoKnows x = Check.told("facts a;person p a;real a");
        x.round(0);
        for (int acts = 1; acts <= 20; acts++) {
            Check.same("acts", x.size(8), acts);
            Check.same("the first one", x.log(acts - 1, 0), 4);
            Check.same("none ahead of it", x.log(acts, 0), NONE);
            x.show(0, 0);
        }
        Check.same("twenty still", x.size(8), 20);
        Check.same("the first one is gone", x.log(19, 0), 3);
        Check.same("no twenty-first", x.log(20, 0), NONE);
        Check.same("its account stays", x.account(4), 1);
        Check.same("the latest one", x.announce(), 1);
        Check.same("is at 0", x.log(0, 0), 0);
        Check.ask(x, "not a");
        x.announce();
        Check.same("a refused one is no act", x.log(0, 0) + x.log(1, 0), 3);
        x.undo();
        x.undo();
        Check.same("the one ahead is kept again", x.log(19, 0), 3);
        x.undo();
        Check.same("and the first one", x.log(19, 0), 4);
        WhoKnows y = asked("facts a b;person p;person q a", "not a");
        y.say(1);
        for (int acts = 2; acts <= 20; acts++) {
            y.show(0, 0);
        }
        Check.same("the twentieth from behind: sort", y.log(19, 0), 1);
        Check.same("the twentieth from behind: who", y.log(19, 1), 2);
        Check.same("the twentieth from behind: worlds", y.log(19, 2), 10);
    }

    @Says(at = "6", value = "The methods that are called changes can be taken back: the latest 8 that were done.")
    static void latestEight() {
        WhoKnows x = Check.told("facts a;person p");
        for (int done = 1; done <= 10; done++) {
            x.round(0);
            Check.same("changes", x.size(9), Math.min(done, 8));
        }
        for (int left = 7; left >= 0; left--) {
            Check.same("undo", x.undo(), left);
            Check.same("rounds then", x.account(4), left + 2);
        }
        Check.same("no ninth one", x.undo(), NONE);
        Check.same("the first two stay", x.account(4), 2);
        // Eight again, over the place of those that were taken back.
        for (int done = 1; done <= 9; done++) {
            x.show(0, 0);
        }
        x.undo();
        x.undo();
        x.round(0);
        Check.same("behind an undo", x.size(9), 7);
        for (int left = 6; left >= 0; left--) {
            Check.same("undo again", x.undo(), left);
        }
        Check.same("the ninth from behind stays", x.account(3), 1);
        Check.same("no more", x.undo(), NONE);
    }

    @Says(at = "6", value = "A change that is refused returns 0 less the reason (section 3; of both the least).")
    static void leastReason() {
        Check.same("announce", asked(PAIR, "not a").announce(), -1);
        Check.same("say, both", asked(PAIR, "not a").say(1), -1);
        Check.same("say, the second one", asked(PAIR, "a").say(1), -2);
        Check.same("wouldSay, both", asked(PAIR, "not a").wouldSay(1), -1);
    }

    @Says(at = "6", value = "What is refused, or throws an exception, changes nothing, except the input buffer as "
            + "told.")
    static void nothingChanges() {
        WhoKnows x = asked(PAIR, "not a");
        x.show(0, 1);
        x.writeWorld(3);
        Check.put(x, "say q");
        String before = Check.all(x);
        Check.same("a lie announced", x.announce(), -1);
        Check.same("a lie said", x.say(0), -1);
        Check.same("the buffer, too", Check.length(x), 5);
        Check.index("say", () -> x.say(2));
        Check.argument("whisper", () -> x.whisper(0));
        Check.argument("whisper to others", () -> x.whisper(5));
        Check.index("show to another one", () -> x.show(2, 0));
        Check.index("show of another one", () -> x.show(0, 2));
        Check.index("round", () -> x.round(2));
        Check.index("writeWorld", () -> x.writeWorld(4));
        Check.index("writeKinds", () -> x.writeKinds(2));
        Check.argument("truncate", () -> x.truncate(6));
        Check.state("restore", x::restore);
        Check.same("the buffer still", Check.length(x), 5);
        Check.same("all", Check.all(x), before);
        Check.argument("orders that end too early", x::runOrders);
        Check.same("the buffer is emptied as told", Check.length(x), 0);
        Check.same("what is known", Check.all(x).replace(" error 1 5", " error 0 -1"), before);
        WhoKnows y = asked(PAIR, "a");
        String known = Check.all(y);
        Check.same("what is not known, said", y.say(1), -2);
        Check.same("all then", Check.all(y), known);
    }

    @Says(at = "6", value = "exceptions come before refusals")
    static void exceptionsFirst() {
        WhoKnows lie = asked(PAIR, "not a");
        Check.index("a lie by nobody", () -> lie.say(2));
        Check.index("a lie by -1", () -> lie.say(-1));
        Check.index("a lie that nobody would say", () -> lie.wouldSay(2));
        WhoKnows unknown = asked(PAIR, "a");
        Check.index("what is not known, by nobody", () -> unknown.say(2));
    }

    @Says(at = "6", value = "What is foretold changes nothing.")
    static void foretelling() {
        WhoKnows x = asked(PAIR, "a or b");
        String before = Check.all(x);
        Check.same("wouldLeave", x.wouldLeave(), 3);
        Check.same("wouldSay", x.wouldSay(0), 2);
        Check.same("wouldKnow", x.wouldKnow(3), 2);
        Check.same("roundsTo", x.roundsTo(0), NONE);
        Check.same("bestFact", x.bestFact(), 0);
        Check.same("leastShown", x.leastShown(1), 1);
        Check.same("all", Check.all(x), before);
        Check.same("no change", x.size(9), 1);
        WhoKnows rounds = Check.told("facts a b;law a or not b;person p;person q b;real a b");
        String known = Check.all(rounds);
        Check.same("a round that rules out", rounds.roundsTo(0), 1);
        Check.same("all, behind a round that rules out", Check.all(rounds), known);
        WhoKnows learns = asked("facts a;person p", "a");
        known = Check.all(learns);
        Check.same("a whisper that tells apart", learns.wouldKnow(1), 1);
        Check.same("all, behind a whisper that tells apart", Check.all(learns), known);
    }

    @Says(at = "6", value = "`NONE = -1`: There is no such thing.")
    static void none() {
        Check.same("NONE", WhoKnows.NONE, -1);
        Check.same("no act", new WhoKnows().log(0, 0), WhoKnows.NONE);
    }

    @Says(at = "6", value = "`COMMON = 99`: What everybody knows that everybody knows, and so on without an end.")
    static void commonConstant() {
        Check.same("COMMON", WhoKnows.COMMON, 99);
        Check.same("what is always so", asked(PAIR, "a or not a").level(), WhoKnows.COMMON);
    }
}
