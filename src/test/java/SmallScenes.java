import java.util.concurrent.Callable;

/**
 * Every scene of two facts and two persons, by the worlds that are left, REAL and the facts that each one sees, and
 * each act there, of some formulas: the program and the Model must foretell and answer the same, and know the same
 * afterwards.
 */
public final class SmallScenes {
    private static final String[] WORLDS = {"not a and not b", "a and not b", "not a and b", "a and b"};
    private static final String[] SETS = {"", " a", " b", " a b"};
    private static final String[] QUESTIONS = {"a", "not b", "a or b", "knows p a", "not knows q (a or b)",
        "maybe q (a and b)", "not all (a or b)", "common (a or b)", "a and not knows q a",
        "knows p b or knows p not b"};

    private final WhoKnows program = new WhoKnows();
    private final Model model = new Model();
    private String tried = "";
    private int answers = 0;
    private int wrong = 0;

    private SmallScenes() {
    }

    public static void main(String[] args) {
        SmallScenes all = new SmallScenes();
        // Each pair of two bits of sees is what one person sees.
        for (int worlds = 1; worlds < 16; worlds++) {
            for (int real = 0; real < 4; real++) {
                for (int sees = 0; sees < 16 && (worlds >> real & 1) == 1; sees++) {
                    all.play("facts a b;law " + law(worlds) + ";person p" + SETS[sees & 3] + ";person q"
                            + SETS[sees >> 2] + ";real" + SETS[real]);
                }
            }
        }
        System.out.println("SmallScenes: " + all.answers + " answers, " + all.wrong + " wrong");
        System.exit(all.wrong == 0 && all.answers > 0 ? 0 : 1);
    }

    private static String law(int worlds) {
        StringBuilder text = new StringBuilder();
        for (int world = 0; world < 4; world++) {
            if ((worlds >> world & 1) == 1) {
                text.append(text.length() > 0 ? " or " : "").append(WORLDS[world]);
            }
        }
        return text.toString();
    }

    private void play(String scene) {
        tried = scene;
        put(scene);
        same("readText()", program::readText, model::readText);
        show();
        goRounds();
        for (String question : QUESTIONS) {
            tried = scene + ", " + question;
            put(question);
            same("ask()", program::ask, model::ask);
            foretell();
            tell();
            same("undo()", program::undo, model::undo);
        }
    }

    private void foretell() {
        same("truth()", program::truth, model::truth);
        same("who()", program::who, model::who);
        same("whether()", program::whether, model::whether);
        same("isCommon()", program::isCommon, model::isCommon);
        same("level()", program::level, model::level);
        same("unlike()", program::unlike, model::unlike);
        same("wouldLeave()", program::wouldLeave, model::wouldLeave);
        for (int number = 0; number < 4; number++) {
            int set = number;
            same("holds(" + set + ")", () -> program.holds(set), () -> model.holds(set));
            same("wouldSay(" + set + ")", () -> program.wouldSay(set), () -> model.wouldSay(set));
            same("wouldKnow(" + set + ")", () -> program.wouldKnow(set), () -> model.wouldKnow(set));
        }
    }

    private void tell() {
        act("announce()", program::announce, model::announce);
        for (int number = 0; number < 4; number++) {
            int set = number;
            act("say(" + set + ")", () -> program.say(set), () -> model.say(set));
            act("whisper(" + set + ")", () -> program.whisper(set), () -> model.whisper(set));
        }
    }

    private void show() {
        for (int number = 0; number < 4; number++) {
            int person = number & 1;
            int fact = number >> 1;
            act("show(" + person + ", " + fact + ")", () -> program.show(person, fact), () -> model.show(person, fact));
        }
    }

    private void goRounds() {
        act("round(0)", () -> program.round(0), () -> model.round(0));
        act("round(1)", () -> program.round(1), () -> model.round(1));
    }

    /** Does an act, looks at all that may be other then, and takes it back if it was done. */
    private void act(String what, Callable<Object> byProgram, Callable<Object> byModel) {
        int before = model.size(9);
        same(what, byProgram, byModel);
        look(what);
        if (model.size(9) > before) {
            same(what + ", undo()", program::undo, model::undo);
        }
    }

    private void look(String behind) {
        for (int number = 0; number <= 9; number++) {
            int what = number;
            same(behind + ", size(" + what + ")", () -> program.size(what), () -> model.size(what));
            same(behind + ", account(" + what + ")", () -> program.account(what), () -> model.account(what));
            same(behind + ", log(0, " + what + ")", () -> program.log(0, what), () -> model.log(0, what));
        }
        same(behind + ", worlds()", program::worlds, model::worlds);
        same(behind + ", knowers()", program::knowers, model::knowers);
        same(behind + ", bestFact()", program::bestFact, model::bestFact);
        same(behind + ", gap()", program::gap, model::gap);
        same(behind + ", share()", program::share, model::share);
        same(behind + ", meanAlike()", program::meanAlike, model::meanAlike);
        for (int number = 0; number < 2; number++) {
            lookAt(behind, number);
        }
        for (int number = 0; number < 16; number++) {
            int world = number >> 2;
            int other = number & 3;
            same(behind + ", steps(" + world + ", " + other + ")", () -> program.steps(world, other),
                    () -> model.steps(world, other));
        }
    }

    /** Looks at the person and at the fact that have a number. */
    private void lookAt(String behind, int number) {
        same(behind + ", kinds(" + number + ")", () -> program.kinds(number), () -> model.kinds(number));
        same(behind + ", doubts(" + number + ")", () -> program.doubts(number), () -> model.doubts(number));
        same(behind + ", leastShown(" + number + ")", () -> program.leastShown(number),
                () -> model.leastShown(number));
        same(behind + ", roundsTo(" + number + ")", () -> program.roundsTo(number), () -> model.roundsTo(number));
        for (int index = 0; index < 4; index++) {
            int world = index;
            same(behind + ", alike(" + number + ", " + world + ")", () -> program.alike(number, world),
                    () -> model.alike(number, world));
            same(behind + ", knowsFact(" + number + ", " + (world & 1) + ")",
                    () -> program.knowsFact(number, world & 1), () -> model.knowsFact(number, world & 1));
        }
    }

    private void put(String text) {
        Check.put(program, text);
        Check.put(model, text);
    }

    private void same(String what, Callable<Object> byProgram, Callable<Object> byModel) {
        Object got = Check.answer(byProgram);
        Object due = Check.answer(byModel);
        answers++;
        if (!due.equals(got)) {
            wrong++;
            if (wrong <= 20) {
                System.out.println(tried + ": " + what + " answered " + got + ", due is " + due);
            }
        }
    }
}
