/** Tests of single sentences: the promises 9 to 37 and 43 to 46, which ask, foretell and write. */
final class EdgesOfAnswers {
    private static final int NONE = WhoKnows.NONE;
    private static final int COMMON = WhoKnows.COMMON;
    private static final int LOWEST = Integer.MIN_VALUE;
    /** Worlds 0 to 3 are left, REAL is 1. Alike are for p 0 2, 1 3; for q 0 1, 2 3. */
    private static final String PAIR = "facts a b;person p a;person q b;real a";
    /** All 32 worlds are left, REAL is 0; p tells none of them apart, q all. */
    private static final String FULL = "facts a b c d e;person p;person q a b c d e";
    /** Five facts that all hold, in the one world that is left, and five persons. */
    private static final String ONE = "facts a b c d e;law a and b and c and d and e" + EdgesOfTerms.persons(5, "");
    /** The worlds 0, 16, 24, 28, 30, 31 are left, REAL is 0; only neighbours are alike, for t, s, r, q, p. */
    private static final String CHAIN = "facts a b c d e;"
            + "law (not a or b) and (not b or c) and (not c or d) and (not d or e);"
            + "person p b c d e;person q a c d e;person r a b d e;person s a b c e;person t a b c d";

    private EdgesOfAnswers() {
    }

    private static WhoKnows asked(String description, String question) {
        return EdgesOfTerms.asked(description, question);
    }

    /** An object with as many persons, who see none of two facts. */
    private static WhoKnows group(int persons) {
        return Check.told("facts a b" + EdgesOfTerms.persons(persons, ""));
    }

    /** An object with as many facts, and a person who sees none of them. */
    private static WhoKnows scene(int facts) {
        return Check.told(EdgesOfTerms.facts(facts) + ";person p");
    }

    private static void written(WhoKnows x, int length, String due) {
        Check.same("text", Check.output(x), due);
        Check.same("length of " + due, length, due.length());
    }

    @Says(at = "Promise 9", value = "0 facts, 1 persons, 2 worlds that are left, 3 worlds that were left at first, 4 "
            + "REAL, 5 NODES of QUESTION, 6 its DEPTH, 7 laws, 8 acts in the LOG, 9 changes that can be taken back")
    static void sizes() {
        WhoKnows x = asked("facts a b c;law a or b;law a or c;person p;person q a;real b c", "all all b or c");
        x.round(0);
        Check.ask(x, "all all b or c");
        x.announce();
        x.show(0, 0);
        // Worlds 1, 3, 5, 6, 7 at first; it is announced what holds in 5, 6, 7.
        int[] due = {3, 2, 3, 5, 6, 5, 2, 2, 3, 5};
        for (int what = 0; what < due.length; what++) {
            Check.same("size(" + what + ")", x.size(what), due[what]);
        }
        int[] greatest = {5, 5, 1, 1, 31, 1, 0, 1, 0, 0};
        int[] least = {1, 1, 2, 2, 0, 1, 0, 0, 0, 0};
        for (int what = 0; what < greatest.length; what++) {
            Check.same("size(" + what + ") of ONE", Check.told(ONE).size(what), greatest[what]);
            Check.same("size(" + what + ") of a new object", new WhoKnows().size(what), least[what]);
        }
        Check.same("32 worlds", Check.told(FULL).size(2) + Check.told(FULL).size(3), 64);
    }

    @Says(at = "Promise 9", value = "Throws `IllegalArgumentException` if what is out of range")
    static void sizeOutOfRange() {
        WhoKnows x = Check.told(PAIR);
        Check.argumentBelow("size", 10, what -> x.size(what));
    }

    @Says(at = "Promise 10", value = "- `index`: 0 for the first letter")
    static void firstLetter() {
        WhoKnows x = Check.told("facts xyz ab;person zyx ab;person cd");
        Check.same("fact 0", x.letter(false, 0, 0), (int) 'x');
        Check.same("fact 1", x.letter(false, 1, 1), (int) 'b');
        Check.same("person 0", x.letter(true, 0, 2), (int) 'x');
        Check.same("person 1", x.letter(true, 1, 0), (int) 'c');
    }

    @Says(at = "Promise 10", value = "Returns the letter; NONE if there is none.")
    static void noLetter() {
        WhoKnows x = Check.told("facts a azazaz;person zazaza;person z");
        for (int index : new int[] {-1, -6, 6, 7, 12, 32, 64, LOWEST, Integer.MAX_VALUE}) {
            Check.same("of six, at " + index, x.letter(false, 1, index), NONE);
            Check.same("of a person's six, at " + index, x.letter(true, 0, index), NONE);
        }
        for (int index = 0; index < 6; index++) {
            Check.same("of six, at " + index, x.letter(false, 1, index), index % 2 == 0 ? (int) 'a' : (int) 'z');
            Check.same("of one, at " + index, x.letter(false, 0, index), index == 0 ? (int) 'a' : NONE);
            Check.same("of a person's one, at " + index, x.letter(true, 1, index), index == 0 ? (int) 'z' : NONE);
        }
    }

    @Says(at = "Promise 10", value = "Throws `IndexOutOfBoundsException` if there is no such person or fact")
    static void letterOfNone() {
        for (int count = 1; count <= 5; count++) {
            WhoKnows facts = scene(count);
            WhoKnows persons = group(count);
            Check.indexBelow("fact", count, number -> facts.letter(false, number, 0));
            Check.indexBelow("fact, no letter", count, number -> facts.letter(false, number, 99));
            Check.indexBelow("person", count, number -> persons.letter(true, number, 0));
            Check.indexBelow("person, no letter", count, number -> persons.letter(true, number, -1));
        }
        // As many as there are of the other kind do not count.
        Check.index("a second person", () -> scene(5).letter(true, 1, 0));
        Check.index("a third fact", () -> group(5).letter(false, 2, 0));
    }

    @Says(at = "Promise 11", value = "Returns what a person SEES.")
    static void seen() {
        WhoKnows x = Check.told("facts a b c d e;person p;person q e;person r a;person s e d c b a;person t b d");
        int[] due = {0, 16, 1, 31, 10};
        for (int person = 0; person < due.length; person++) {
            Check.same("sees(" + person + ")", x.sees(person), due[person]);
        }
        x.show(0, 2);
        Check.same("what was shown is not seen", x.sees(0), 0);
    }

    @Says(at = "Promise 11", value = "Throws `IndexOutOfBoundsException` if there is no such person")
    static void seesOfNone() {
        for (int count = 1; count <= 5; count++) {
            WhoKnows x = group(count);
            Check.indexBelow("sees", count, person -> x.sees(person));
        }
    }

    @Says(at = "Promise 12", value = "Returns the worlds that are left.")
    static void worldsLeft() {
        Check.same("all", Check.told(FULL).worlds(), -1);
        Check.same("31 alone", Check.told(ONE).worlds(), LOWEST);
        Check.same("0 alone", Check.told("facts a;law not a;person p").worlds(), 1);
        WhoKnows x = asked(FULL, "not a and not b and not c and not d and not e");
        x.announce();
        Check.same("0 alone of 32", x.worlds(), 1);
        x.undo();
        Check.same("all again", x.worlds(), -1);
    }

    @Says(at = "Promise 13", value = "Returns the worlds that are ALIKE to a world for a person.")
    static void alikeForAPerson() {
        WhoKnows x = Check.told(PAIR);
        int[][] due = {{5, 10, 5, 10}, {3, 3, 12, 12}};
        for (int person = 0; person < 2; person++) {
            for (int world = 0; world < 4; world++) {
                Check.same("alike(" + person + ", " + world + ")", x.alike(person, world), due[person][world]);
            }
        }
    }

    @Says(at = "Promise 13", value = "- `world`: a world, below 2 to the power of the facts")
    static void alikeBelow() {
        for (int count = 1; count <= 5; count++) {
            WhoKnows x = scene(count);
            Check.same("the last world", x.alike(0, (1 << count) - 1), count == 5 ? -1 : (1 << (1 << count)) - 1);
            int end = 1 << count;
            Check.index("the one behind it", () -> x.alike(0, end));
        }
        Check.index("behind it, though ruled out, too", () -> Check.told("facts a b;law a;person p").alike(0, 4));
    }

    @Says(at = "Promise 13", value = "Returns a set of worlds, with itself; 0 if it is ruled out.")
    static void alikeSet() {
        WhoKnows x = Check.told(FULL);
        Check.same("all", x.alike(0, 0), -1);
        Check.same("itself alone", x.alike(1, 31), LOWEST);
        Check.same("itself alone, 0", x.alike(1, 0), 1);
        Check.same("ruled out by a law", Check.told("facts a;law a;person p").alike(0, 0), 0);
        Check.ask(x, "not e");
        x.announce();
        Check.same("ruled out", x.alike(0, 16), 0);
        Check.same("ruled out, 31", x.alike(1, 31), 0);
        Check.same("without those", x.alike(0, 15), 0xFFFF);
    }

    @Says(at = "Promise 13", value = "Throws `IndexOutOfBoundsException` if there is no such person or world")
    static void alikeOfNone() {
        for (int count = 1; count <= 5; count++) {
            WhoKnows persons = group(count);
            Check.indexBelow("person", count, person -> persons.alike(person, 3));
            WhoKnows worlds = scene(count);
            Check.indexBelow("world", 1 << count, world -> worlds.alike(0, world));
        }
        Check.index("neither", () -> Check.told(PAIR).alike(2, 4));
    }

    @Says(at = "Promise 14", value = "Counts the greatest sets of worlds each two of which are ALIKE for a person.")
    static void kindsCounted() {
        WhoKnows x = Check.told(FULL);
        Check.same("one of all", x.kinds(0), 1);
        Check.same("each world alone", x.kinds(1), 32);
        for (int shown = 1; shown <= 5; shown++) {
            x.show(0, shown - 1);
            Check.same("halves of halves", x.kinds(0), 1 << shown);
        }
        x.show(0, 4);
        Check.same("no more than worlds", x.kinds(0), 32);
        Check.same("one world", Check.told(ONE).kinds(4), 1);
        WhoKnows y = asked(PAIR, "a");
        y.announce();
        Check.same("those of ruled out ones are none", y.kinds(0), 1);
        Check.same("what is left of others are some", y.kinds(1), 2);
    }

    @Says(at = "Promise 14", value = "Throws `IndexOutOfBoundsException` if there is no such person")
    static void kindsOfNone() {
        for (int count = 1; count <= 5; count++) {
            WhoKnows x = group(count);
            Check.indexBelow("kinds", count, person -> x.kinds(person));
        }
    }

    @Says(at = "Promise 15", value = "Counts the pairs of two different worlds that are ALIKE for a person.")
    static void doubtsCounted() {
        WhoKnows x = Check.told(FULL);
        Check.same("all pairs of 32", x.doubts(0), 496);
        Check.same("none", x.doubts(1), 0);
        x.show(0, 4);
        Check.same("pairs in halves", x.doubts(0), 240);
        Check.ask(x, "not e");
        x.announce();
        Check.same("pairs that are left", x.doubts(0), 120);
        Check.same("one world", Check.told(ONE).doubts(0), 0);
        Check.same("one pair", new WhoKnows().doubts(0), 1);
    }

    @Says(at = "Promise 15", value = "Throws `IndexOutOfBoundsException` if there is no such person")
    static void doubtsOfNone() {
        for (int count = 1; count <= 5; count++) {
            WhoKnows x = group(count);
            Check.indexBelow("doubts", count, person -> x.doubts(person));
        }
    }

    @Says(at = "Promise 16", value = "Returns the worlds that are REACHED from a world.")
    static void reached() {
        WhoKnows x = Check.told(CHAIN);
        Check.same("by five steps", x.reach(0), x.worlds());
        Check.same("and back", x.reach(31), x.worlds());
        Check.same("from the middle", x.reach(24), x.worlds());
        WhoKnows y = Check.told("facts a b;person p a;person q a");
        Check.same("not all", y.reach(0), 5);
        Check.same("the others", y.reach(1), 10);
    }

    @Says(at = "Promise 16", value = "Returns a set of worlds, with itself; 0 if it is ruled out.")
    static void reachSet() {
        Check.same("all", Check.told(FULL).reach(17), -1);
        WhoKnows x = Check.told("facts a b c d e;person q a b c d e");
        Check.same("itself alone", x.reach(31), LOWEST);
        Check.same("itself alone, 0", x.reach(0), 1);
        Check.same("ruled out by a law", Check.told(CHAIN).reach(1), 0);
        Check.ask(x, "not a");
        x.announce();
        Check.same("ruled out", x.reach(31), 0);
        Check.same("left", x.reach(30), 1 << 30);
    }

    @Says(at = "Promise 16", value = "Throws `IndexOutOfBoundsException` if there is no such world")
    static void reachOfNone() {
        for (int count = 1; count <= 5; count++) {
            WhoKnows x = scene(count);
            Check.indexBelow("reach", 1 << count, world -> x.reach(world));
        }
    }

    @Says(at = "Promise 17", value = "Returns the fewest steps, each to a world that is ALIKE for some person, from "
            + "a world to another one.")
    static void fewestSteps() {
        WhoKnows x = Check.told(CHAIN);
        int[] chain = {0, 16, 24, 28, 30, 31};
        for (int from = 0; from < chain.length; from++) {
            for (int to = 0; to < chain.length; to++) {
                Check.same("from " + chain[from] + " to " + chain[to], x.steps(chain[from], chain[to]),
                        Math.abs(from - to));
            }
        }
        Check.same("one where two would do, too", Check.told(FULL).steps(0, 31), 1);
        // By p from 0 to 2, by q from there to 3: no person alone could.
        Check.same("by two persons", Check.told(PAIR).steps(0, 3), 2);
    }

    @Says(at = "Promise 17", value = "Returns how many (0 to itself); NONE if it is not REACHED (so from or to one "
            + "that is ruled out).")
    static void noSteps() {
        WhoKnows x = Check.told("facts a b;law not (a and b);person p a;person q a");
        Check.same("to itself", x.steps(1, 1), 0);
        Check.same("to itself, 0", x.steps(0, 0), 0);
        Check.same("one step", x.steps(0, 2), 1);
        Check.same("not reached", x.steps(0, 1), NONE);
        Check.same("from one that is ruled out", x.steps(3, 1), NONE);
        Check.same("to one that is ruled out", x.steps(1, 3), NONE);
        Check.same("from one that is ruled out to itself", x.steps(3, 3), NONE);
        Check.same("31 to itself", Check.told(FULL).steps(31, 31), 0);
    }

    @Says(at = "Promise 17", value = "Throws `IndexOutOfBoundsException` if there is no such world")
    static void stepsOfNone() {
        for (int count = 1; count <= 5; count++) {
            WhoKnows x = scene(count);
            Check.indexBelow("from", 1 << count, world -> x.steps(world, 1));
            Check.indexBelow("to", 1 << count, world -> x.steps(1, world));
        }
        Check.index("to none, from one that is ruled out", () -> Check.told("facts a;law a;person p").steps(0, 2));
        Check.index("from none, to one that is ruled out", () -> Check.told("facts a;law a;person p").steps(2, 0));
        Check.index("the same of none", () -> Check.told(PAIR).steps(4, 4));
    }

    @Says(at = "Promise 18", value = "Tells whether QUESTION is TRUE in a world.")
    static void holdsInAWorld() {
        WhoKnows x = asked(FULL, "(a and b and c and d and e) or not (a or b or c or d or e)");
        for (int world = 0; world < 32; world++) {
            Check.same("holds(" + world + ")", x.holds(world), world == 0 || world == 31);
        }
    }

    @Says(at = "Promise 18", value = "Returns true if so; false if it is ruled out.")
    static void holdsThere() {
        WhoKnows x = asked("facts a b;law not b;person p", "a or not a");
        Check.same("so", x.holds(0), true);
        Check.same("ruled out by a law", x.holds(2), false);
        Check.ask(x, "not a");
        x.announce();
        Check.same("ruled out", x.holds(1), false);
        Check.ask(x, "a or not a");
        Check.same("ruled out still", x.holds(1), false);
        Check.same("left", x.holds(0), true);
        Check.same("31", asked(FULL, "e").holds(31), true);
        Check.same("15", asked(FULL, "e").holds(15), false);
    }

    @Says(at = "Promise 18", value = "Throws `IndexOutOfBoundsException` if there is no such world")
    static void holdsOfNone() {
        for (int count = 1; count <= 5; count++) {
            WhoKnows x = scene(count);
            Check.indexBelow("holds", 1 << count, world -> x.holds(world));
        }
    }

    @Says(at = "Promise 19", value = "Returns the worlds in which QUESTION is TRUE.")
    static void truths() {
        Check.same("none", asked(FULL, "a and not a").truth(), 0);
        Check.same("all", asked(FULL, "a or not a").truth(), -1);
        Check.same("31 alone", asked(FULL, "a and b and c and d and e").truth(), LOWEST);
        Check.same("all that are left", asked("facts a b;law a;person p", "a").truth(), 10);
        Check.same("none that is ruled out", asked("facts a b;law a;person p", "not a or b").truth(), 8);
    }

    @Says(at = "Promise 20", value = "Returns the persons who know in REAL that QUESTION is TRUE.")
    static void whoKnow() {
        Check.same("one", asked(PAIR, "a").who(), 1);
        Check.same("none of what is not TRUE", asked(PAIR, "not a").who(), 0);
        Check.same("none of what is TRUE by chance", asked("facts a b" + EdgesOfTerms.persons(5, " b") + ";real a", "a")
                .who(), 0);
        Check.same("all five", asked("facts a b" + EdgesOfTerms.persons(5, " a") + ";real a", "a").who(), 31);
        WhoKnows fifth = asked("facts a b" + EdgesOfTerms.persons(4, " b") + ";person t a;real a", "a");
        Check.same("the fifth one", fifth.who(), 16);
        // Where q does not know, elsewhere q does.
        Check.same("in REAL", asked(PAIR, "a or b").who(), 1);
    }

    @Says(at = "Promise 21", value = "Returns the persons who know in REAL whether QUESTION is TRUE.")
    static void whetherKnown() {
        Check.same("that it is", asked(PAIR, "a").whether(), 1);
        Check.same("that it is not", asked(PAIR, "not a").whether(), 1);
        Check.same("that it is not, the other one", asked(PAIR, "b").whether(), 2);
        Check.same("all, of what is always so", asked(PAIR, "a or not a").whether(), 3);
        Check.same("all, of what is never so", asked(PAIR, "a and not a").whether(), 3);
        Check.same("none", asked("facts a b" + EdgesOfTerms.persons(5, " b"), "a").whether(), 0);
        Check.same("all five", asked("facts a b" + EdgesOfTerms.persons(5, " a"), "a").whether(), 31);
    }

    @Says(at = "Promise 22", value = "Tells whether it is common knowledge in REAL that QUESTION is TRUE.")
    static void commonInReal() {
        Check.same("always so", asked(CHAIN, "a or not a").isCommon(), true);
        Check.same("not so five steps away", asked(CHAIN, "not a").isCommon(), false);
        Check.same("known to all only", asked(CHAIN, "all not e or not e").isCommon(), false);
        Check.same("never so", asked(PAIR, "a and not a").isCommon(), false);
        Check.same("in REAL", asked("facts a b;person p a;real a", "a").isCommon(), true);
        Check.same("not in REAL", asked("facts a b;person p a", "a").isCommon(), false);
        Check.same("one world", asked(ONE, "a").isCommon(), true);
    }

    @Says(at = "Promise 23", value = "Returns how many times all can be put ahead of QUESTION so that it is TRUE in "
            + "REAL still.")
    static void allAhead() {
        for (String question : new String[] {"not e", "not d", "not c", "not b", "not a"}) {
            WhoKnows x = asked(CHAIN, question);
            int level = x.level();
            Check.ask(x, Check.times("all ", level) + question);
            Check.same("as often, of " + question, x.holds(0), true);
            Check.same("none more then, of " + question, x.level(), 0);
            Check.ask(x, Check.times("all ", level + 1) + question);
            Check.same("once more, of " + question, x.holds(0), false);
        }
    }

    @Says(at = "Promise 23", value = "Returns the greatest number, 0 or more; COMMON if it is so for all numbers; "
            + "NONE if QUESTION itself is not TRUE in REAL.")
    static void levels() {
        String[] questions = {"e", "not e", "not d", "not c", "not b", "not a", "a or not a", "a and not a"};
        int[] due = {NONE, 0, 1, 2, 3, 4, COMMON, NONE};
        for (int index = 0; index < questions.length; index++) {
            Check.same("level of " + questions[index], asked(CHAIN, questions[index]).level(), due[index]);
        }
        Check.same("TRUE in REAL alone, and nobody knows", asked("facts a;person p", "not a").level(), 0);
        Check.same("TRUE in all but REAL", asked("facts a;person p", "a").level(), NONE);
        Check.same("one who knows", asked("facts a;person p a", "not a").level(), COMMON);
        Check.same("one world", asked(ONE, "e").level(), COMMON);
        Check.same("common in REAL, not elsewhere", asked("facts a b;person p a;real a", "a").level(), COMMON);
    }

    @Says(at = "Promise 24", value = "Returns the worlds for which both differ (which is 0).")
    static void unlikeNone() {
        for (String question : new String[] {"a", "not a", "a or not a", "a and not a", "not e", "all a",
            "common not a"}) {
            Check.same("of " + question, asked(CHAIN, question).unlike(), 0);
            Check.same("of all worlds, " + question, asked(FULL, question).unlike(), 0);
            Check.same("of one world, " + question, asked(ONE, question).unlike(), 0);
            Check.same("of halves, " + question,
                    asked("facts a b c d e;person p a;person q a b", question).unlike(), 0);
        }
    }

    @Says(at = "Promise 24", value = "Works out common of QUESTION in another way, by putting all ahead of it again "
            + "and again till nothing changes, and compares.")
    static void unlikeChangesNothing() {
        WhoKnows x = asked(CHAIN, "not a");
        String before = Check.known(x);
        Check.same("unlike", x.unlike(), 0);
        Check.same("all", Check.known(x), before);
    }

    @Says(at = "Promise 25", value = "Tells what a person knows of a fact in REAL.")
    static void factsKnownInReal() {
        // 0, 1, 3 are left: q, who sees b, knows a in 3 alone.
        String law = "facts a b;law a or not b;person p;person q b";
        Check.same("where it is not known", Check.told(law + ";real a").knowsFact(1, 0), NONE);
        Check.same("where it is known", Check.told(law + ";real a b").knowsFact(1, 0), 1);
        WhoKnows x = Check.told(law);
        x.show(0, 0);
        Check.same("shown what does not hold", x.knowsFact(0, 0), 0);
        Check.same("and what follows from it", x.knowsFact(0, 1), 0);
    }

    @Says(at = "Promise 25", value = "Returns 1 that it holds, 0 that it does not, NONE neither.")
    static void factsKnown() {
        WhoKnows x = Check.told("facts a b;person p a;person q a b;person r;real b");
        int[][] due = {{0, NONE}, {0, 1}, {NONE, NONE}};
        for (int person = 0; person < 3; person++) {
            for (int fact = 0; fact < 2; fact++) {
                Check.same("knowsFact(" + person + ", " + fact + ")", x.knowsFact(person, fact), due[person][fact]);
            }
        }
        x.show(2, 1);
        Check.same("shown", x.knowsFact(2, 1), 1);
        for (int fact = 0; fact < 5; fact++) {
            Check.same("one world, fact " + fact, Check.told(ONE).knowsFact(4, fact), 1);
            Check.same("no fact holds, fact " + fact, Check.told(FULL).knowsFact(1, fact), 0);
            Check.same("all worlds, fact " + fact, Check.told(FULL).knowsFact(0, fact), NONE);
        }
    }

    @Says(at = "Promise 25", value = "Throws `IndexOutOfBoundsException` if there is no such person or fact")
    static void knowsFactOfNone() {
        for (int count = 1; count <= 5; count++) {
            WhoKnows persons = group(count);
            Check.indexBelow("person", count, person -> persons.knowsFact(person, 1));
            WhoKnows facts = scene(count);
            Check.indexBelow("fact", count, fact -> facts.knowsFact(0, fact));
        }
        Check.index("neither", () -> Check.told(PAIR).knowsFact(2, 2));
    }

    @Says(at = "Promise 26", value = "Returns the persons who know which world is REAL: no other one is ALIKE to it "
            + "for them.")
    static void knowersOfReal() {
        Check.same("none", group(5).knowers(), 0);
        Check.same("all five", Check.told("facts a b" + EdgesOfTerms.persons(5, " a b")).knowers(), 31);
        Check.same("one world", Check.told(ONE).knowers(), 31);
        Check.same("one of two", Check.told(FULL).knowers(), 2);
        Check.same("31 is REAL", Check.told(FULL + ";real a b c d e").knowers(), 2);
        // p could not tell 2 and 3, but tells 0 from them.
        Check.same("in REAL", Check.told("facts a b;law b or not a;person p b").knowers(), 1);
        Check.same("elsewhere", Check.told("facts a b;law b or not a;person p b;real b").knowers(), 0);
    }

    @Says(at = "Promise 27", value = "Foretells how many worlds would be left if QUESTION was announced.")
    static void announcingForetold() {
        for (String question : new String[] {"a", "a or b", "a or not a", "not b", "a and not b",
            "a and not knows q a"}) {
            WhoKnows x = asked(PAIR, question);
            int foretold = x.wouldLeave();
            Check.same("nothing is done, " + question, x.worlds(), 15);
            x.announce();
            Check.same("announced " + question, x.size(2), foretold);
        }
    }

    @Says(at = "Promise 27", value = "Returns how many; 0 less 1 if it is a lie.")
    static void wouldBeLeft() {
        Check.same("a lie", asked(PAIR, "b").wouldLeave(), -1);
        Check.same("TRUE in all but REAL", asked(PAIR, "not a or b").wouldLeave(), -1);
        Check.same("REAL alone", asked(PAIR, "a and not b").wouldLeave(), 1);
        Check.same("all", asked(FULL, "a or not a").wouldLeave(), 32);
        Check.same("half", asked(FULL, "not e").wouldLeave(), 16);
        WhoKnows x = asked(PAIR, "a or b");
        Check.same("as it is then", x.wouldLeave(), x.announce());
    }

    @Says(at = "Promise 28", value = "Foretells how many worlds would be left if a person said QUESTION.")
    static void sayingForetold() {
        for (String question : new String[] {"a", "a or b", "a or not a", "a or not b", "a and not knows q a"}) {
            WhoKnows x = asked(PAIR, question);
            int foretold = x.wouldSay(0);
            Check.same("nothing is done, " + question, x.worlds(), 15);
            x.say(0);
            Check.same("said " + question, x.size(2), foretold);
        }
    }

    @Says(at = "Promise 28", value = "Returns how many; 0 less the reason if it would be refused.")
    static void wouldBeSaid() {
        Check.same("a lie", asked(PAIR, "not a").wouldSay(0), -1);
        Check.same("a lie that is not known to be one", asked(PAIR, "not a").wouldSay(1), -1);
        Check.same("not known", asked(PAIR, "a").wouldSay(1), -2);
        Check.same("known", asked(PAIR, "a").wouldSay(0), 2);
        Check.same("known in all", asked(FULL, "a or not a").wouldSay(0), 32);
        Check.same("known in REAL alone", asked(FULL, "not (a or b or c or d or e)").wouldSay(1), 1);
        WhoKnows x = asked(PAIR, "a or b");
        Check.same("as it is then", x.wouldSay(0), x.say(0));
    }

    @Says(at = "Promise 28", value = "Throws `IndexOutOfBoundsException` if there is no such person")
    static void wouldSayOfNone() {
        for (int count = 1; count <= 5; count++) {
            WhoKnows x = group(count);
            Check.indexBelow("a lie", count, person -> x.wouldSay(person));
            Check.ask(x, "a or not a");
            Check.indexBelow("what all know", count, person -> x.wouldSay(person));
        }
    }

    @Says(at = "Promise 29", value = "- `persons`: a set of persons, perhaps none")
    static void wouldKnowOfNone() {
        Check.same("none", asked(PAIR, "a").wouldKnow(0), 0);
        Check.same("none, where one knows already", Check.told(FULL).wouldKnow(0), 2);
        Check.same("none of one world", Check.told(ONE).wouldKnow(0), 31);
    }

    @Says(at = "Promise 29", value = "Foretells who would know which world is REAL (as knowers() tells) if QUESTION "
            + "was whispered to some persons.")
    static void wouldKnowReal() {
        WhoKnows x = asked("facts a" + EdgesOfTerms.persons(5, ""), "a");
        for (int persons = 0; persons < 32; persons++) {
            Check.same("to " + persons, x.wouldKnow(persons), persons);
        }
        WhoKnows y = asked(PAIR, "a");
        Check.same("to q", y.wouldKnow(2), 2);
        y.whisper(2);
        Check.same("as it is then", y.knowers(), 2);
        Check.same("what is not enough", asked(FULL, "a").wouldKnow(3), 2);
    }

    @Says(at = "Promise 29", value = "Throws `IllegalArgumentException` if persons has others than there are")
    static void wouldKnowOfOthers() {
        for (int count = 1; count <= 5; count++) {
            WhoKnows x = group(count);
            Check.argumentBelow("wouldKnow", 1 << count, persons -> x.wouldKnow(persons));
            int others = 1 << count | 1;
            Check.argument("one more", () -> x.wouldKnow(others));
            Check.argument("bit 31 more", () -> x.wouldKnow(LOWEST | 1));
        }
    }

    @Says(at = "Promise 30", value = "Returns how many (0 if they do); NONE if a round rules nothing out ahead of "
            + "that.")
    static void roundsCounted() {
        Check.same("they do", Check.told("facts a b" + EdgesOfTerms.persons(5, " a")).roundsTo(0), 0);
        Check.same("one world", Check.told(ONE).roundsTo(4), 0);
        Check.same("nobody ever", Check.told(PAIR).roundsTo(0), NONE);
        Check.same("one", Check.told("facts a b;law a or not b;person p;person q b;real a b").roundsTo(0), 1);
        String two = "facts a b c;law not a or not c;law a or b or c;person p b;person q c;real a";
        Check.same("two", Check.told(two).roundsTo(0), 2);
        // A round rules something out, and the next one nothing, while somebody does not know.
        WhoKnows x = Check.told("facts a b;law a or not b;person p;person q b;person r;real a");
        Check.same("some are ruled out first", x.roundsTo(0), NONE);
        x.round(0);
        Check.same("in the first round", x.account(5), 1);
        x.round(0);
        Check.same("none in the second one", x.account(5), 1);
    }

    @Says(at = "Promise 30", value = "Foretells how many rounds of a fact, one behind the other, it takes until all "
            + "know in REAL whether it holds.")
    static void roundsAsTheyCome() {
        WhoKnows x = Check.told("facts a b c;law not a or not c;law a or b or c;person p b;person q c;real a");
        Check.same("two are due", x.roundsTo(0), 2);
        Check.same("nobody knows", x.round(0), 0);
        Check.same("one is due", x.roundsTo(0), 1);
        Check.same("p knows", x.round(0), 1);
        Check.same("none is due", x.roundsTo(0), 0);
        Check.same("all know", x.round(0), 3);
    }

    @Says(at = "Promise 30", value = "Throws `IndexOutOfBoundsException` if there is no such fact")
    static void roundsToNone() {
        for (int count = 1; count <= 5; count++) {
            WhoKnows x = scene(count);
            Check.indexBelow("roundsTo", count, fact -> x.roundsTo(fact));
        }
    }

    @Says(at = "Promise 31", value = "Returns the fact, the lowest one of several.")
    static void lowestBestFact() {
        Check.same("all the same", Check.told(FULL).bestFact(), 0);
        Check.same("one world", Check.told(ONE).bestFact(), 0);
        Check.same("one fact", new WhoKnows().bestFact(), 0);
        WhoKnows last = Check.told("facts a b c d e;law not (not e and (a or b or c or d));person p");
        Check.same("the last one", last.bestFact(), 4);
        // 1, 2, 4 are left, REAL is 4: not a leaves 2, not b leaves 2, c leaves 1.
        WhoKnows third = Check.told("facts a b c;law a or b or c;law not (a and b);law not (c and (a or b));person p;"
                + "real c");
        Check.same("not the lowest", third.bestFact(), 2);
        // 0, 1, 2 are left: not a leaves 0 and 2, not b leaves 0 and 1.
        Check.same("several", Check.told("facts a b;law not (a and b);person p").bestFact(), 0);
    }

    @Says(at = "Promise 31", value = "Finds the fact by which the fewest worlds would be left, if it was announced "
            + "whether it holds in REAL.")
    static void bestFactInReal() {
        // 0, 1, 3 are left: a holds in all but 0, b in 3 alone.
        String law = "facts a b;law a or not b;person p";
        Check.same("that it does not hold", Check.told(law).bestFact(), 0);
        Check.same("that it holds", Check.told(law + ";real a b").bestFact(), 1);
        Check.same("of both as many", Check.told(law + ";real a").bestFact(), 0);
    }

    @Says(at = "Promise 32", value = "Returns a set of facts (0 if it knows already).")
    static void leastShownNone() {
        Check.same("it knows", Check.told(FULL).leastShown(1), 0);
        Check.same("one world", Check.told(ONE).leastShown(4), 0);
        Check.same("all five", Check.told(FULL).leastShown(0), 31);
        Check.same("the last one", Check.told("facts a b c d e;person p a b c d").leastShown(0), 16);
        Check.same("of 31", Check.told(FULL + ";real a b c d e").leastShown(0), 31);
    }

    @Says(at = "Promise 32", value = "of several sets the least one as a number")
    static void leastShownLowest() {
        Check.same("one of two", Check.told("facts a b;law a and b or not a and not b;person p").leastShown(0), 1);
        // 0, 3, 5, 6: any two of three facts.
        Check.same("two of three", Check.told("facts a b c;law not (a or b or c) or a and b and not c or "
                + "a and c and not b or b and c and not a;person p").leastShown(0), 3);
        // 0, 5, 6: c alone, or a and b, which are less as a number.
        Check.same("fewest first", Check.told("facts a b c;law not (a or b or c) or c and (a and not b or b and not a);"
                + "person p").leastShown(0), 4);
    }

    @Says(at = "Promise 32", value = "Throws `IndexOutOfBoundsException` if there is no such person")
    static void leastShownOfNone() {
        for (int count = 1; count <= 5; count++) {
            WhoKnows x = group(count);
            Check.indexBelow("leastShown", count, person -> x.leastShown(person));
        }
    }

    @Says(at = "Promise 33", value = "- `index`: 0 for the latest one, 1 for that ahead of it, and so on")
    static void logLatestFirst() {
        WhoKnows x = Check.told(PAIR);
        Check.run(x, "round a;show q a;whisper p that b;say p a;announce a;");
        for (int index = 0; index < 5; index++) {
            Check.same("act " + index, x.log(index, 0), index);
        }
        x.round(0);
        Check.same("one more", x.log(0, 0) * 10 + x.log(1, 0), 40);
    }

    @Says(at = "Promise 33", value = "1 the set of persons who said it, or to whom it was told (0 of others), 2 the "
            + "set of the worlds that were ruled out by it")
    static void logNumbers() {
        WhoKnows x = Check.told("facts a b c d e" + EdgesOfTerms.persons(5, " a") + ";real a");
        Check.run(x, "announce not e;say t a;whisper t p q r s that b;show s c;round a;");
        int[][] due = {{4, 0, 0}, {3, 8, 0}, {2, 31, 0}, {1, 16, 0x5555}, {0, 0, 0xFFFF0000}};
        for (int index = 0; index < due.length; index++) {
            for (int what = 0; what <= 2; what++) {
                Check.same("log(" + index + ", " + what + ")", x.log(index, what), due[index][what]);
            }
        }
        WhoKnows y = Check.told("facts a b;law a or not b;person p;person q b;real a b");
        y.round(0);
        Check.same("ruled out by a round", y.log(0, 2), 3);
        WhoKnows z = asked("facts a b c d e;person p", "not (a and b and c and d and e)");
        z.announce();
        Check.same("31 is ruled out", z.log(0, 2), LOWEST);
    }

    @Says(at = "Promise 33", value = "Returns the number; NONE if there is no such act.")
    static void noAct() {
        WhoKnows x = Check.told(PAIR);
        for (int what = 0; what <= 2; what++) {
            Check.same("no act at all", x.log(0, what), NONE);
        }
        for (int acts = 1; acts <= 25; acts++) {
            x.show(0, 0);
            Check.same("the oldest of " + acts, x.log(Math.min(acts, 20) - 1, 0), 3);
            Check.same("none ahead of " + acts, x.log(Math.min(acts, 20), 0), NONE);
        }
        for (int index : new int[] {-1, -20, 20, 21, 32, LOWEST, Integer.MAX_VALUE}) {
            for (int what = 0; what <= 2; what++) {
                Check.same("act " + index, x.log(index, what), NONE);
            }
        }
        Check.read(x, PAIR);
        Check.same("none of another description", x.log(0, 1), NONE);
        x.show(0, 0);
        x.undo();
        Check.same("none that was taken back", x.log(0, 0), NONE);
    }

    @Says(at = "Promise 33", value = "Throws `IllegalArgumentException` if what is out of range")
    static void logOutOfRange() {
        WhoKnows x = Check.told(PAIR);
        x.show(0, 0);
        Check.argumentBelow("an act", 3, what -> x.log(0, what));
        Check.argumentBelow("no act", 3, what -> x.log(1, what));
        Check.argumentBelow("act -1", 3, what -> x.log(-1, what));
    }

    @Says(at = "Promise 34", value = "0 announcements, 1 sayings, 2 whispers, 3 facts that were shown, 4 rounds, 5 "
            + "worlds that were ruled out, 6 pairs of worlds that became ALIKE no longer for a person by a whisper "
            + "or by showing")
    static void accounts() {
        WhoKnows x = Check.told("facts a b" + EdgesOfTerms.persons(2, ""));
        Check.run(x, "show p a;show p a;show p a;show q b;");
        Check.same("facts shown, though in vain", x.account(3), 4);
        Check.same("pairs, by showing", x.account(6), 8);
        Check.run(x, "whisper p q that a and b;whisper p q that a and b;whisper p that b;");
        Check.same("whispers, though in vain", x.account(2), 3);
        // For p 1 and 3, for q 2 and 3 are told apart, and then for p 0 and 2.
        Check.same("pairs, by whispers, too", x.account(6), 11);
        Check.run(x, "announce not a or not b;announce not a or not b;");
        Check.same("announcements, though in vain", x.account(0), 2);
        Check.same("worlds ruled out", x.account(5), 1);
        // What is ruled out is alike no longer, but by no whisper.
        Check.same("pairs still", x.account(6), 11);
        Check.run(x, "say p not a;round a;round b;round a;round a;round a;");
        Check.same("sayings", x.account(1), 1);
        Check.same("rounds", x.account(4), 5);
        Check.same("worlds ruled out by all of these", x.account(5), x.size(3) - x.size(2));
        Check.ask(x, "a and not a");
        x.announce();
        x.say(0);
        Check.same("refused ones do not count", x.account(0) + x.account(1), 3);
        WhoKnows most = asked("facts a b c d e" + EdgesOfTerms.persons(5, ""), "a");
        most.whisper(31);
        Check.same("256 pairs of each of five", most.account(6), 1280);
    }

    @Says(at = "Promise 34", value = "what is taken back is taken back here, too")
    static void accountsTakenBack() {
        WhoKnows x = Check.told(PAIR);
        x.show(1, 0);
        String before = Check.known(x);
        Check.run(x, "announce a or b;say p a;whisper p that b;show p b;round a;");
        Check.same("all count", x.account(0) + x.account(1) + x.account(2) + x.account(3) + x.account(4), 6);
        x.undo();
        Check.same("all are back", Check.known(x), before);
        Check.same("the one ahead stays", x.account(3), 1);
        x.undo();
        for (int what = 0; what <= 6; what++) {
            Check.same("account(" + what + ")", x.account(what), 0);
        }
    }

    @Says(at = "Promise 34", value = "Throws `IllegalArgumentException` if what is out of range")
    static void accountOutOfRange() {
        WhoKnows x = Check.told(PAIR);
        Check.argumentBelow("account", 7, what -> x.account(what));
    }

    @Says(at = "Promise 35", value = "Compares the worlds that are left with those at first and those that were "
            + "ruled out.")
    static void gapOfAll() {
        WhoKnows x = asked(FULL, "not e");
        x.announce();
        x.announce();
        Check.same("16 are ruled out once", x.size(3) - x.size(2), 16);
        Check.same("and counted once", x.account(5), 16);
        Check.same("gap", x.gap(), 0);
        WhoKnows law = Check.told("facts a b c;law a;person p");
        Check.same("what laws rule out is not counted", law.account(5), 0);
        Check.same("gap of laws", law.gap(), 0);
    }

    @Says(at = "Promise 35", value = "Returns size(3) less size(2) and less account 5 (which is 0).")
    static void gapNone() {
        Check.same("new", new WhoKnows().gap(), 0);
        WhoKnows x = asked(FULL, "not (a and b and c and d and e)");
        x.announce();
        Check.same("one is ruled out", x.gap(), 0);
        x.save();
        Check.run(x, "announce not a;say q not b;round c;");
        Check.same("many are ruled out", x.gap(), 0);
        x.undo();
        Check.same("taken back", x.gap(), 0);
        x.restore();
        Check.same("restored", x.gap(), 0);
    }

    @Says(at = "Promise 36", value = "Returns which part of the worlds at first is left.")
    static void partLeft() {
        WhoKnows x = asked("facts a b c;law a or b or c;person p;real a", "not b");
        x.announce();
        Check.same("three of seven", x.share(), 3.0f / 7.0f);
        Check.ask(x, "not c");
        x.announce();
        Check.same("one of seven", x.share(), 1.0f / 7.0f);
        x.undo();
        Check.same("three again", x.share(), 3.0f / 7.0f);
    }

    @Says(at = "Promise 36", value = "Returns (float) (worlds that are left) / (float) (worlds that were left at "
            + "first).")
    static void shareLeft() {
        Check.same("all", Check.told(FULL).share(), 1.0f);
        Check.same("all of one", Check.told(ONE).share(), 1.0f);
        WhoKnows x = asked(FULL, "not (a or b or c or d or e)");
        x.announce();
        Check.same("one of 32", x.share(), 0.03125f);
        WhoKnows y = asked("facts a b;law a or b;person p;real a", "not b");
        y.announce();
        Check.same("one of three, as a float", y.share(), 1.0f / 3.0f);
        // The worlds at first are those that the laws leave.
        WhoKnows z = asked("facts a b c;law a or b or c;person p;real a", "a");
        z.announce();
        Check.same("four of seven", z.share(), 4.0f / 7.0f);
    }

    @Says(at = "Promise 37", value = "Returns the mean number of worlds that are ALIKE to a world, itself counted, "
            + "over all worlds that are left and all persons.")
    static void meanWithItself() {
        Check.same("itself is one", Check.told("facts a;person p a;person q a").meanAlike(), 1.0);
        Check.same("all persons", Check.told("facts a b;person p;person q a;person r a b").meanAlike(), 28.0 / 12.0);
        WhoKnows five = Check.told("facts a" + EdgesOfTerms.persons(4, " a") + ";person t");
        Check.same("five persons", five.meanAlike(), 1.2);
        WhoKnows x = asked("facts a b;person p", "not (a and b)");
        x.announce();
        Check.same("worlds that are left", x.meanAlike(), 3.0);
    }

    @Says(at = "Promise 37", value = "Returns (double) (the sum) / (double) (worlds that are left times persons).")
    static void meanOfAlike() {
        Check.same("all", Check.told("facts a b c d e;person p").meanAlike(), 32.0);
        Check.same("itself alone", Check.told("facts a b c d e;person p a b c d e").meanAlike(), 1.0);
        Check.same("of both", Check.told(FULL).meanAlike(), 16.5);
        Check.same("one world", Check.told(ONE).meanAlike(), 1.0);
        Check.same("as a double", Check.told("facts a b;law a or b;person p a").meanAlike(), 5.0 / 3.0);
        WhoKnows x = asked(FULL, "not e");
        x.announce();
        Check.same("of those that are left", x.meanAlike(), 8.5);
    }

    @Says(at = "Promise 43", value = "their NAMEs with a plus sign (byte 43) between two; a hyphen (byte 45) without "
            + "any")
    static void writtenFacts() {
        WhoKnows x = Check.told("facts sun abcdef c d e;person p;real e");
        written(x, x.writeWorld(1), "sun");
        written(x, x.writeWorld(3), "sun+abcdef");
        written(x, x.writeWorld(31), "sun+abcdef+c+d+e");
        written(x, x.writeWorld(0), "-");
        Check.same("the hyphen's byte", x.outputByte(0), 45);
        x.writeWorld(12);
        Check.same("the plus sign's byte", x.outputByte(1), 43);
        written(x, x.writeWorld(18), "abcdef+e");
        WhoKnows long6 = Check.told("facts aaaaaa bbbbbb cccccc dddddd eeeeee;person p");
        written(long6, long6.writeWorld(31), "aaaaaa+bbbbbb+cccccc+dddddd+eeeeee");
    }

    @Says(at = "Promise 43", value = "an exclamation mark (byte 33) ahead of all in REAL, an x and a space ahead of "
            + "one that is ruled out")
    static void writtenMarks() {
        WhoKnows x = asked("facts a b;law a or not b;person p", "not a");
        written(x, x.writeWorld(0), "!-");
        Check.same("the mark's byte", x.outputByte(0), 33);
        written(x, x.writeWorld(1), "a");
        written(x, x.writeWorld(2), "x b");
        x.announce();
        written(x, x.writeWorld(1), "x a");
        written(x, x.writeWorld(3), "x a+b");
        Check.same("the letter's byte", x.outputByte(0), 120);
        Check.same("the space's byte", x.outputByte(1), 32);
        x.undo();
        written(x, x.writeWorld(3), "a+b");
        WhoKnows y = Check.told("facts a b;law a;person p;real a b");
        written(y, y.writeWorld(3), "!a+b");
        written(y, y.writeWorld(0), "x -");
    }

    @Says(at = "Promise 43", value = "Writes the facts that hold in a world to the output text, in place of what it "
            + "had")
    static void writtenInPlace() {
        WhoKnows x = Check.told("facts sun abc;person p");
        written(x, x.writeWorld(3), "sun+abc");
        written(x, x.writeWorld(1), "sun");
        Check.same("nothing is behind it", x.outputByte(3), NONE);
    }

    @Says(at = "Promise 43", value = "Returns the length of the text.")
    static void lengthOfWorld() {
        Check.same("the shortest one", Check.told("facts a b;person p;real a").writeWorld(0), 1);
        WhoKnows x = Check.told("facts aaaaaa bbbbbb cccccc dddddd eeeeee;law not aaaaaa;person p");
        Check.same("the longest one", x.writeWorld(31), 36);
    }

    @Says(at = "Promise 43", value = "Throws `IndexOutOfBoundsException` if there is no such world")
    static void writeNoWorld() {
        for (int count = 1; count <= 5; count++) {
            WhoKnows x = scene(count);
            Check.indexBelow("writeWorld", 1 << count, world -> x.writeWorld(world));
            x.writeWorld(0);
            int end = 1 << count;
            Check.index("behind all", () -> x.writeWorld(end));
            Check.same("the text stays", Check.output(x), "!-");
        }
    }

    @Says(at = "Promise 44", value = "by their lowest worlds, the numbers of the worlds, with a space between two "
            + "worlds and a vertical bar (byte 124) between two sets")
    static void writtenKinds() {
        WhoKnows x = Check.told(PAIR);
        written(x, x.writeKinds(0), "0 2|1 3");
        Check.same("the space's byte", x.outputByte(1), 32);
        Check.same("the bar's byte", x.outputByte(3), 124);
        written(x, x.writeKinds(1), "0 1|2 3");
        WhoKnows one = Check.told(ONE);
        written(one, one.writeKinds(0), "31");
        WhoKnows all = Check.told("facts a b c;person p;person q a b c");
        written(all, all.writeKinds(0), "0 1 2 3 4 5 6 7");
        written(all, all.writeKinds(1), "0|1|2|3|4|5|6|7");
        WhoKnows y = asked("facts a b c d e;law not e or a and b;person p e b;real b", "b or a and not c and not d");
        y.announce();
        written(y, y.writeKinds(0), "1|2 3 6 7 10 11 14 15|19 23 27 31");
    }

    @Says(at = "Promise 44", value = "Writes the sets that kinds() counts to the output text, in place of what it had")
    static void writtenKindsInPlace() {
        WhoKnows x = Check.told(PAIR);
        x.writeKinds(0);
        Check.ask(x, "a and not b");
        x.announce();
        written(x, x.writeKinds(0), "1");
        Check.same("nothing is behind it", x.outputByte(1), NONE);
    }

    @Says(at = "Promise 44", value = "Returns the length of the text.")
    static void lengthOfKinds() {
        // Ten numbers of one digit, 22 of two, 31 signs between them.
        Check.same("one set", Check.told(FULL).writeKinds(0), 85);
        Check.same("32 sets", Check.told(FULL).writeKinds(1), 85);
        Check.same("one world", Check.told("facts a;law a;person p").writeKinds(0), 1);
    }

    @Says(at = "Promise 44", value = "Throws `IndexOutOfBoundsException` if there is no such person")
    static void writeKindsOfNone() {
        for (int count = 1; count <= 5; count++) {
            WhoKnows x = group(count);
            Check.indexBelow("writeKinds", count, person -> x.writeKinds(person));
            x.writeWorld(0);
            int end = count;
            Check.index("behind all", () -> x.writeKinds(end));
            Check.same("the text stays", Check.output(x), "!-");
        }
    }

    @Says(at = "Promise 45", value = "words with a space between two, a FORMULA of two parts joined by and, or in "
            + "parentheses (three parts are the first two joined, and the third one), none else, as \"(a and not (b "
            + "or c))\"")
    static void writtenQuestion() {
        String[][] due = {{"(a and not (b or c))", "(a and not (b or c))"},
            {"a and not(b or c)", "(a and not (b or c))"},
            {"((((a))))", "a"}, {"not (a)", "not a"}, {"a and b and c", "((a and b) and c)"},
            {"a or b or c", "((a or b) or c)"}, {"a and b or c", "((a and b) or c)"},
            {"a or b and c", "(a or (b and c))"}, {"a and (b and c)", "(a and (b and c))"},
            {"a or (b or c)", "(a or (b or c))"}, {"a and b and c and a", "(((a and b) and c) and a)"},
            {"a or b and c or a", "((a or (b and c)) or a)"}, {"knows p (a or b)", "knows p (a or b)"},
            {"knows p a or b", "(knows p a or b)"}, {"knows p (a) or b", "(knows p a or b)"},
            {"not maybe p all common not a", "not maybe p all common not a"},
            {"all (not (a))", "all not a"}, {"common(a and b)", "common (a and b)"}};
        for (String[] row : due) {
            WhoKnows x = asked("facts a b c;person p", row[0]);
            written(x, x.writeQuestion(), row[1]);
        }
        WhoKnows names = asked("facts sun abcdef;person ann;person zyxwvu", "knows zyxwvu abcdef and maybe ann sun");
        written(names, names.writeQuestion(), "(knows zyxwvu abcdef and maybe ann sun)");
    }

    @Says(at = "Promise 45", value = "Writes QUESTION to the output text, in place of what it had")
    static void writtenQuestionInPlace() {
        WhoKnows x = asked(PAIR, "a and b");
        written(x, x.writeQuestion(), "(a and b)");
        x.undo();
        written(x, x.writeQuestion(), "a");
        Check.same("nothing is behind it", x.outputByte(1), NONE);
        WhoKnows y = new WhoKnows();
        written(y, y.writeQuestion(), "a");
    }

    @Says(at = "Promise 45", value = "Returns the length of the text.")
    static void lengthOfQuestion() {
        WhoKnows x = Check.told("facts abcdef;person ghijkl");
        Check.ask(x, Check.times("maybe ghijkl ", 44) + "abcdef");
        Check.same("a long one", x.writeQuestion(), 44 * 13 + 6);
        Check.ask(x, Check.times("abcdef or ", 29) + "not abcdef");
        written(x, x.writeQuestion(), Check.times("(", 29) + "abcdef" + Check.times(" or abcdef)", 28)
                + " or not abcdef)");
        Check.ask(x, "not " + Check.times("abcdef and ", 29) + "abcdef");
        written(x, x.writeQuestion(), Check.times("(", 29) + "not abcdef" + Check.times(" and abcdef)", 29));
        String eight = Check.times("abcdef and (", 8) + "abcdef or abcdef" + Check.times(")", 8);
        Check.ask(x, eight);
        written(x, x.writeQuestion(), "(" + eight + ")");
        Check.ask(x, Check.times("all ", 59) + "abcdef");
        Check.same("60 nodes", x.writeQuestion(), 59 * 4 + 6);
    }

    @Says(at = "Promise 46", value = "- `index`: the index, from 0")
    static void bytesFrom0() {
        WhoKnows x = Check.told("facts abc;person p");
        Check.same("length", x.writeWorld(1), 3);
        Check.same("byte 0", x.outputByte(0), (int) 'a');
        Check.same("byte 2", x.outputByte(2), (int) 'c');
    }

    @Says(at = "Promise 46", value = "Returns the byte; NONE if there is none.")
    static void noByte() {
        WhoKnows x = Check.told("facts abc;person p");
        for (int index : new int[] {-1, 0, 1, LOWEST, Integer.MAX_VALUE}) {
            Check.same("without a text", x.outputByte(index), NONE);
        }
        x.writeWorld(1);
        for (int index : new int[] {-1, 3, 4, 256, LOWEST, Integer.MAX_VALUE}) {
            Check.same("byte " + index, x.outputByte(index), NONE);
        }
    }
}
