/** Tests of single sentences: the promises 38 to 42 and 47 to 49, which act, undo, save and restore. */
final class EdgesOfChanges {
    private static final int NONE = WhoKnows.NONE;
    /** Worlds 0 to 3 are left, REAL is 1. Alike are for p 0 2, 1 3; for q 0 1, 2 3. */
    private static final String PAIR = "facts a b;person p a;person q b;real a";
    /** All 32 worlds are left, REAL is 0; p tells none of them apart, q all. */
    private static final String FULL = "facts a b c d e;person p;person q a b c d e";

    private EdgesOfChanges() {
    }

    private static WhoKnows asked(String description, String question) {
        return EdgesOfTerms.asked(description, question);
    }

    /** An object with as many persons, who see none of two facts. */
    private static WhoKnows group(int persons) {
        return Check.told("facts a b" + EdgesOfTerms.persons(persons, ""));
    }

    private static WhoKnows scene(int facts) {
        return Check.told(EdgesOfTerms.facts(facts) + ";person p");
    }

    /** A change that was done can be taken back; one that was refused is none. */
    private static void change(WhoKnows x, String what, int answer, int due, int changes) {
        Check.same(what, answer, due);
        Check.same(what + ": changes", x.size(9), changes);
    }

    @Says(at = "Promise 38", value = "Announces QUESTION (a change).")
    static void announceIsAChange() {
        WhoKnows x = asked(PAIR, "a or b");
        String before = Check.known(x);
        change(x, "announce", x.announce(), 3, 2);
        change(x, "once more, which rules nothing out", x.announce(), 3, 3);
        Check.same("its act", x.log(0, 0) + x.log(0, 1) + x.log(0, 2), 0);
        Check.same("QUESTION stays", x.size(5), 3);
        Check.same("undo", x.undo(), 2);
        Check.same("undo", x.undo(), 1);
        Check.same("as before", Check.known(x), before);
    }

    @Says(at = "Promise 38", value = "Returns the worlds that are left then; refused for 1.")
    static void announceReturns() {
        WhoKnows x = asked(PAIR, "not a or b");
        change(x, "a lie", x.announce(), -1, 1);
        Check.same("no act", x.size(8) + x.account(0), 0);
        Check.same("never TRUE", asked(PAIR, "a and not a").announce(), -1);
        Check.same("always TRUE", asked(FULL, "a or not a").announce(), 32);
        Check.same("in REAL alone", asked(PAIR, "a and not b").announce(), 1);
        // That no person knows it is no reason.
        Check.same("what nobody knows", asked("facts a;person p;real a", "a").announce(), 1);
    }

    @Says(at = "Promise 39", value = "A person says QUESTION (a change).")
    static void sayIsAChange() {
        WhoKnows x = asked(PAIR, "a or b");
        String before = Check.known(x);
        change(x, "say", x.say(0), 2, 2);
        Check.same("its sort", x.log(0, 0), 1);
        Check.same("who said it", x.log(0, 1), 1);
        Check.same("what it ruled out", x.log(0, 2), 5);
        Check.same("undo", x.undo(), 1);
        Check.same("as before", Check.known(x), before);
        WhoKnows five = asked("facts a b" + EdgesOfTerms.persons(4, "") + ";person t a", "not a");
        Check.same("the fifth one", five.say(4), 2);
        Check.same("its set", five.log(0, 1), 16);
    }

    @Says(at = "Promise 39", value = "Returns the worlds that are left then; refused for 1, 2.")
    static void sayReturns() {
        WhoKnows lie = asked(PAIR, "not a");
        change(lie, "a lie that is known to be one", lie.say(0), -1, 1);
        change(lie, "a lie that is not known to be one", lie.say(1), -1, 1);
        WhoKnows x = asked(PAIR, "a");
        change(x, "not known", x.say(1), -2, 1);
        Check.same("no act", x.size(8) + x.account(1), 0);
        change(x, "known", x.say(0), 2, 2);
        change(x, "known since it was said", x.say(1), 2, 3);
        Check.same("known in all", asked(FULL, "a or not a").say(0), 32);
        Check.same("known in REAL alone", asked(FULL, "not (a or b or c or d or e)").say(1), 1);
    }

    @Says(at = "Promise 39", value = "Throws `IndexOutOfBoundsException` if there is no such person")
    static void sayOfNone() {
        for (int count = 1; count <= 5; count++) {
            WhoKnows x = group(count);
            Check.indexBelow("a lie", count, person -> x.say(person));
            Check.ask(x, "a or not a");
            Check.indexBelow("what all know", count, person -> x.say(person));
        }
    }

    @Says(at = "Promise 40", value = "Whispers QUESTION to some persons (a change).")
    static void whisperIsAChange() {
        WhoKnows x = asked(PAIR, "a");
        String before = Check.known(x);
        change(x, "whisper", x.whisper(2), 2, 2);
        change(x, "once more, which tells nothing apart", x.whisper(2), 0, 3);
        Check.same("its sort", x.log(0, 0), 2);
        Check.same("who heard it", x.log(0, 1), 2);
        Check.same("it rules nothing out", x.log(0, 2), 0);
        Check.same("undo", x.undo(), 2);
        Check.same("undo", x.undo(), 1);
        Check.same("as before", Check.known(x), before);
        WhoKnows lie = asked(PAIR, "not a");
        change(lie, "what is not TRUE is not refused", lie.whisper(2), 2, 2);
    }

    @Says(at = "Promise 40", value = "- `persons`: a set of persons, one at least")
    static void oneHearer() {
        WhoKnows x = group(5);
        Check.argument("none", () -> x.whisper(0));
        for (int person = 0; person < 5; person++) {
            Check.same("one", x.whisper(1 << person), 4);
        }
        Check.same("all five", x.whisper(31), 0);
    }

    @Says(at = "Promise 40", value = "Returns how many pairs of worlds became ALIKE no longer for one of them, all "
            + "persons together.")
    static void whisperReturns() {
        WhoKnows five = asked("facts a b c d e" + EdgesOfTerms.persons(5, ""), "e");
        Check.same("256 for each of five", five.whisper(31), 1280);
        Check.same("31 of one", asked(FULL, "a and b and c and d and e").whisper(1), 31);
        Check.same("of none who knows all", asked(FULL, "a").whisper(2), 0);
        Check.same("of both", asked(FULL, "a").whisper(3), 256);
        WhoKnows x = asked(FULL, "not e");
        x.announce();
        Check.ask(x, "a");
        Check.same("of worlds that are left", x.whisper(1), 64);
    }

    @Says(at = "Promise 40", value = "Throws `IllegalArgumentException` if persons is 0, or has others than there are")
    static void whisperToOthers() {
        for (int count = 1; count <= 5; count++) {
            WhoKnows x = group(count);
            int all = (1 << count) - 1;
            for (int persons : new int[] {0, all + 1, all + 2, all + 32, -1, -32, 1 << 31, 1 << 31 | 1, 256}) {
                Check.argument("to " + persons + " of " + count, () -> x.whisper(persons));
            }
            change(x, "nothing was done", x.size(8), 0, 0);
            Check.same("to all", x.whisper(all), 4 * count);
        }
    }

    @Says(at = "Promise 41", value = "Shows a fact to a person (a change).")
    static void showIsAChange() {
        WhoKnows x = Check.told(PAIR);
        String before = Check.known(x);
        change(x, "show", x.show(1, 0), 2, 1);
        change(x, "once more, which tells nothing apart", x.show(1, 0), 0, 2);
        Check.same("its sort", x.log(0, 0), 3);
        Check.same("to whom", x.log(0, 1), 2);
        Check.same("it rules nothing out", x.log(0, 2), 0);
        Check.same("undo", x.undo(), 1);
        Check.same("undo", x.undo(), 0);
        Check.same("as before", Check.known(x), before);
        WhoKnows five = Check.told("facts a b c d e" + EdgesOfTerms.persons(5, ""));
        Check.same("the fifth fact to the fifth person", five.show(4, 4), 256);
        Check.same("the fifth person", five.log(0, 1), 16);
        Check.same("what it knows then", five.knowsFact(4, 4), 0);
    }

    @Says(at = "Promise 41", value = "Returns how many pairs of worlds became ALIKE no longer for it.")
    static void showReturns() {
        WhoKnows x = Check.told(FULL);
        int[] due = {256, 128, 64, 32, 16};
        for (int fact = 0; fact < 5; fact++) {
            Check.same("fact " + fact, x.show(0, fact), due[fact]);
        }
        Check.same("what it knows", x.show(0, 4), 0);
        Check.same("what the other one sees", x.show(1, 4), 0);
    }

    @Says(at = "Promise 41", value = "Throws `IndexOutOfBoundsException` if there is no such person or fact")
    static void showOfNone() {
        for (int count = 1; count <= 5; count++) {
            WhoKnows persons = group(count);
            Check.indexBelow("person", count, person -> persons.show(person, 1));
            WhoKnows facts = scene(count);
            Check.indexBelow("fact", count, fact -> facts.show(0, fact));
        }
        Check.index("neither", () -> Check.told(PAIR).show(2, 2));
    }

    @Says(at = "Promise 42", value = "A round of a fact (a change).")
    static void roundIsAChange() {
        WhoKnows x = Check.told("facts a b;law a or not b;person p;person q b;real a b");
        String before = Check.known(x);
        change(x, "round", x.round(0), 2, 1);
        Check.same("its sort", x.log(0, 0), 4);
        Check.same("of no person", x.log(0, 1), 0);
        Check.same("what it ruled out", x.log(0, 2), 3);
        change(x, "once more, which rules nothing out", x.round(0), 3, 2);
        Check.same("undo", x.undo(), 1);
        Check.same("undo", x.undo(), 0);
        Check.same("as before", Check.known(x), before);
    }

    @Says(at = "Promise 42", value = "Returns the set of persons who told that they know.")
    static void roundReturns() {
        Check.same("none", group(5).round(0), 0);
        Check.same("all five", Check.told("facts a b" + EdgesOfTerms.persons(5, " b")).round(1), 31);
        WhoKnows fifth = Check.told("facts a b" + EdgesOfTerms.persons(4, " a") + ";person t b");
        Check.same("the fifth one", fifth.round(1), 16);
        Check.same("who know that it does not hold", Check.told(PAIR).round(1), 2);
        Check.same("the fifth fact", Check.told(FULL).round(4), 2);
        // p knows by the round, but only behind it.
        WhoKnows x = Check.told("facts a b;law a or not b;person p;person q b;real a b");
        Check.same("ahead of it", x.round(0), 2);
        Check.same("behind it", x.round(0), 3);
    }

    @Says(at = "Promise 42", value = "Throws `IndexOutOfBoundsException` if there is no such fact")
    static void roundOfNone() {
        for (int count = 1; count <= 5; count++) {
            WhoKnows x = scene(count);
            Check.indexBelow("round", count, fact -> x.round(fact));
        }
    }

    @Says(at = "Promise 47", value = "Takes the latest change back that was not taken back.")
    static void undoLatest() {
        WhoKnows x = Check.told(PAIR);
        String[] known = new String[8];
        for (int change = 0; change < known.length; change++) {
            known[change] = Check.known(x);
            changeInSomeWay(x, change);
            Check.same("changes behind " + change, x.size(9), change + 1);
        }
        for (int change = known.length - 1; change >= 0; change--) {
            Check.same("undo of " + change, x.undo(), change);
            Check.same("as ahead of " + change, Check.known(x), known[change]);
        }
        Check.same("no more", x.undo(), NONE);
        // One that was taken back is gone, and another one stands in its place.
        x.show(0, 1);
        x.show(1, 0);
        Check.same("the second one", x.undo(), 1);
        x.round(0);
        Check.same("the third one", x.undo(), 1);
        Check.same("the first one is there", x.account(3), 1);
        Check.same("the first one", x.undo(), 0);
        Check.same("as at first", Check.known(x), known[0]);
    }

    private static void changeInSomeWay(WhoKnows x, int change) {
        switch (change) {
            case 0:
                Check.ask(x, "a or b");
                break;
            case 1:
                x.announce();
                break;
            case 2:
                x.whisper(3);
                break;
            case 3:
                Check.run(x, "whisper p that b;round a;");
                break;
            case 4:
                x.round(1);
                break;
            case 5:
                Check.ask(x, "a");
                break;
            case 6:
                x.say(0);
                break;
            default:
                x.show(1, 0);
                break;
        }
    }

    @Says(at = "Promise 47", value = "The input buffer, the latest error, the output text and what was saved stay.")
    static void undoLeaves() {
        WhoKnows x = Check.told(PAIR);
        x.round(0);
        x.save();
        x.show(1, 0);
        x.writeWorld(1);
        Check.ask(x, "b?");
        Check.put(x, "round b;");
        Check.same("undo", x.undo(), 1);
        Check.same("the buffer", Check.length(x), 8);
        Check.error("the error", x, 1, 1);
        Check.same("the output", Check.output(x), "!a");
        Check.same("undo", x.undo(), 0);
        Check.same("no round", x.account(4), 0);
        Check.same("the buffer can be read", x.runOrders(), 1);
        Check.same("what was saved", x.restore(), 4);
        Check.same("with the round of then", x.account(4), 1);
        Check.same("without what came behind", x.account(3), 0);
    }

    @Says(at = "Promise 47", value = "Returns how many can be taken back then; NONE, and nothing changes, if there "
            + "is none.")
    static void undoOfNone() {
        Check.same("of a new object", new WhoKnows().undo(), NONE);
        WhoKnows x = asked(PAIR, "a or b");
        x.announce();
        x.writeWorld(1);
        Check.same("two", x.undo(), 1);
        Check.same("one", x.undo(), 0);
        Check.put(x, "b?");
        String before = Check.all(x);
        Check.same("none", x.undo(), NONE);
        Check.same("none still", x.undo(), NONE);
        Check.same("nothing changes", Check.all(x), before);
        Check.same("nor the buffer", Check.length(x), 2);
        WhoKnows y = Check.told(PAIR);
        for (int change = 0; change < 9; change++) {
            y.show(1, 0);
        }
        for (int left = 7; left >= 0; left--) {
            Check.same("of eight", y.undo(), left);
        }
        Check.same("the ninth from behind", y.undo(), NONE);
        Check.same("stays", y.account(3), 1);
    }

    @Says(at = "Promise 48", value = "Saves everything except the input buffer, the latest error, the changes that "
            + "can be taken back and the output text, in place of what was saved.")
    static void saves() {
        WhoKnows x = asked(PAIR, "a or b");
        x.announce();
        x.whisper(2);
        x.writeWorld(1);
        String known = Check.known(x);
        String before = Check.all(x);
        Check.put(x, "b?");
        Check.same("save", x.save(), 3);
        Check.same("nothing changes by it", Check.all(x), before);
        Check.same("nor the buffer", Check.length(x), 2);
        x.truncate(0);
        Check.read(x, "facts sun moon rain;law sun;person ann");
        x.round(1);
        Check.same("what is saved last", x.save(), 4);
        Check.read(x, "facts c;person r");
        Check.same("is restored", x.restore(), 4);
        Check.same("its round, too", x.account(4) + x.size(8), 2);
        Check.same("its law", x.size(7), 1);
        WhoKnows y = asked(PAIR, "a or b");
        y.announce();
        y.whisper(2);
        y.save();
        Check.read(y, "facts sun moon rain;law sun;person ann");
        y.restore();
        Check.same("all that was known", Check.known(y), known);
    }

    @Says(at = "Promise 48", value = "Returns the worlds that are left.")
    static void saveReturns() {
        Check.same("new", new WhoKnows().save(), 2);
        Check.same("all", Check.told(FULL).save(), 32);
        Check.same("one", Check.told("facts a;law a;person p").save(), 1);
        WhoKnows x = asked(FULL, "not e");
        x.announce();
        Check.same("half", x.save(), 16);
    }

    @Says(at = "Promise 49", value = "Replaces everything by a copy of what was saved, which stays; no change can be "
            + "taken back then.")
    static void restores() {
        WhoKnows x = asked(PAIR, "a or b");
        x.show(0, 1);
        String known = Check.known(x);
        x.save();
        for (int times = 0; times < 3; times++) {
            x.announce();
            x.whisper(3);
            Check.ask(x, "b");
            Check.same("restore", x.restore(), 4);
            Check.same("as it was saved", Check.known(x), known);
            Check.same("no change", x.size(9), 0);
            Check.same("none to undo", x.undo(), NONE);
        }
        x.round(0);
        Check.same("a change behind it", x.undo(), 0);
        Check.same("as it was saved still", Check.known(x), known);
    }

    @Says(at = "Promise 49", value = "Replaces everything by a copy of what was saved")
    static void restoreLeaves() {
        WhoKnows x = Check.told(PAIR);
        x.save();
        x.writeWorld(1);
        Check.ask(x, "b?");
        Check.put(x, "round b;");
        x.restore();
        // What is not saved is not replaced.
        Check.same("the output", Check.output(x), "!a");
        Check.error("the error", x, 1, 1);
        Check.same("the buffer", x.runOrders(), 1);
    }

    @Says(at = "Promise 49", value = "Returns the worlds that are left then.")
    static void restoreReturns() {
        WhoKnows x = asked(FULL, "not (a or b or c or d or e)");
        x.save();
        Check.same("one is left", x.announce(), 1);
        Check.same("32 then", x.restore(), 32);
        x.announce();
        x.save();
        x.undo();
        Check.same("32 are left", x.size(2), 32);
        Check.same("one then", x.restore(), 1);
    }

    @Says(at = "Promise 49", value = "Throws `IllegalStateException` if nothing was saved")
    static void restoreOfNone() {
        WhoKnows x = asked(PAIR, "a or b");
        x.announce();
        x.writeWorld(1);
        String before = Check.all(x);
        Check.state("nothing was saved", x::restore);
        Check.same("nothing changes", Check.all(x), before);
        Check.read(x, PAIR);
        x.undo();
        Check.state("nothing was saved still", x::restore);
        x.save();
        Check.same("saved", x.restore(), 4);
        Check.read(x, FULL);
        Check.same("saved still", x.restore(), 4);
    }
}
