import java.util.concurrent.Callable;

/**
 * Every text of a few tokens, read by the program and by the Model: both must find the same error at the same place, or
 * none and know the same afterwards.
 */
public final class ShortTexts {
    private static final String SCENE = "facts a b;person p;person q a";
    private static final String[] FORMULA_TOKENS = {"a", "b", "p", "not", "and", "or", "knows", "maybe", "all",
        "common", "(", ")", ";", "zz", "seventh"};
    private static final String[] TEXT_TOKENS = {"a", "b", "p", "not", "and", "or", ";", "law", "person", "real", "(",
        ")", "knows", "seventh", "$"};
    private static final String[] ORDER_TOKENS = {"a", "p", "q", "not", "and", "knows", "that", "round", ";", "(", ")",
        "zz", "seventh"};
    private static final String[] TEXT_STARTS = {"", "facts", "facts a", "facts a;", "facts a b;law", "facts a;law a;",
        "facts a;person", "facts a b;person p", "facts a;person p;", "facts a b;law a or b;person p;real"};
    private static final String[] ORDER_STARTS = {"", "announce", "say", "say p", "whisper", "whisper q that", "show",
        "round", "round a;"};

    private final WhoKnows program = new WhoKnows();
    private final Model model = new Model();
    private int texts = 0;
    private int good = 0;
    private int wrong = 0;

    private ShortTexts() {
    }

    public static void main(String[] args) {
        ShortTexts all = new ShortTexts();
        all.grow("ask", FORMULA_TOKENS, "", 4, true);
        all.grow("ask", FORMULA_TOKENS, "", 4, false);
        for (String start : TEXT_STARTS) {
            all.grow("readText", TEXT_TOKENS, start, 3, true);
            all.grow("readText", TEXT_TOKENS, start, 3, false);
        }
        for (String start : ORDER_STARTS) {
            all.grow("runOrders", ORDER_TOKENS, start, 3, true);
            all.grow("runOrders", ORDER_TOKENS, start, 3, false);
        }
        System.out.println("ShortTexts: " + all.texts + " texts, " + all.good + " without an error, " + all.wrong
                + " wrong");
        System.exit(all.wrong == 0 && all.good > 0 && all.good < all.texts ? 0 : 1);
    }

    /** Tries a text, and with each token behind it again; with no more spaces than are required, or one everywhere. */
    private void grow(String what, String[] tokens, String text, int more, boolean isTight) {
        compare(what, text);
        for (int index = 0; index < tokens.length && more > 0; index++) {
            boolean needsSpace = !isTight || endsWithLetter(text) && endsWithLetter(tokens[index]);
            grow(what, tokens, text + (needsSpace ? " " : "") + tokens[index], more - 1, isTight);
        }
    }

    private static boolean endsWithLetter(String text) {
        return !text.isEmpty() && Character.isLetter(text.charAt(text.length() - 1));
    }

    private void compare(String what, String text) {
        if (!what.equals("readText")) {
            read(SCENE, program::readText, model::readText);
        }
        Object got = what.equals("ask") ? read(text, program::ask, model::ask)
                : what.equals("runOrders") ? read(text, program::runOrders, model::runOrders)
                : read(text, program::readText, model::readText);
        texts++;
        good += got instanceof Integer ? 1 : 0;
        same(what, text, "errorCode()", program.errorCode(), model.errorCode());
        same(what, text, "errorPosition()", program.errorPosition(), model.errorPosition());
        for (int number = 0; number <= 9; number++) {
            same(what, text, "size(" + number + ")", program.size(number), model.size(number));
        }
        same(what, text, "worlds()", program.worlds(), model.worlds());
        same(what, text, "truth()", program.truth(), model.truth());
        same(what, text, "log(0, 1)", program.log(0, 1), model.log(0, 1));
        same(what, text, "writeQuestion()", program.writeQuestion(), model.writeQuestion());
        for (int person = 0; person < model.size(1); person++) {
            same(what, text, "sees(" + person + ")", program.sees(person), model.sees(person));
            same(what, text, "doubts(" + person + ")", program.doubts(person), model.doubts(person));
        }
    }

    private Object read(String text, Callable<Object> byProgram, Callable<Object> byModel) {
        Check.put(program, text);
        Check.put(model, text);
        Object got = Check.answer(byProgram);
        same("reading", text, "it", got, Check.answer(byModel));
        return got;
    }

    private void same(String what, String text, String call, Object got, Object due) {
        if (!due.equals(got)) {
            wrong++;
            if (wrong <= 20) {
                System.out.println(what + " of \"" + text + "\": " + call + " answered " + got + ", due is " + due);
            }
        }
    }
}
