import java.util.concurrent.Callable;
import java.util.function.IntFunction;

/** What all tests use: counting of wrong answers, and texts put into the input buffer. */
final class Check {
    private static int wrong = 0;
    private static int right = 0;

    private Check() {
    }

    static void same(String what, Object got, Object due) {
        if (due.equals(got)) {
            right++;
        } else {
            wrong++;
            System.out.println(what + " answered " + got + ", due is " + due);
        }
    }

    /** The answer of a call, or "throws." and the name of the exception. */
    static Object answer(Callable<Object> call) {
        try {
            return call.call();
        } catch (Exception e) {
            return "throws." + e.getClass().getSimpleName();
        }
    }

    static void due(String what, Object due, Callable<Object> call) {
        same(what, answer(call), due);
    }

    static void state(String what, Callable<Object> call) {
        due(what, "throws.IllegalStateException", call);
    }

    static void argument(String what, Callable<Object> call) {
        due(what, "throws.IllegalArgumentException", call);
    }

    static void index(String what, Callable<Object> call) {
        due(what, "throws.IndexOutOfBoundsException", call);
    }

    /** A number is taken from 0 on, below an end; all others, those of a wrap-around among them, throw. */
    static void below(String what, int end, String thrown, IntFunction<Object> call) {
        for (int number : new int[] {0, end - 1}) {
            Object answer = answer(() -> call.apply(number));
            same(what + " of " + number + " throws", answer instanceof String, false);
        }
        for (int number : new int[] {-1, -32, end, end + 1, 32, end + 32, end + 256, Integer.MIN_VALUE,
            Integer.MAX_VALUE}) {
            same(what + " of " + number, answer(() -> call.apply(number)), "throws." + thrown);
        }
    }

    static void indexBelow(String what, int end, IntFunction<Object> call) {
        below(what, end, "IndexOutOfBoundsException", call);
    }

    static void argumentBelow(String what, int end, IntFunction<Object> call) {
        below(what, end, "IllegalArgumentException", call);
    }

    static int rightCount() {
        return right;
    }

    static int wrongCount() {
        return wrong;
    }

    static void end(String name) {
        System.out.println(name + ": " + right + " right, " + wrong + " wrong");
        System.exit(wrong == 0 && right > 0 ? 0 : 1);
    }

    static void put(WhoKnows x, String text) {
        int before = length(x);
        for (int from = 0; from < text.length(); from += 20) {
            int[] words = words(text, from);
            x.append(words[0], words[1], words[2], words[3], words[4]);
        }
        x.truncate(before + text.length());
    }

    static void put(Model model, String text) {
        int before = model.truncate(model.append(0, 0, 0, 0, 0) - 20);
        for (int from = 0; from < text.length(); from += 20) {
            int[] words = words(text, from);
            model.append(words[0], words[1], words[2], words[3], words[4]);
        }
        model.truncate(before + text.length());
    }

    /** Twenty bytes of a text, from a place on, with spaces behind its end. */
    private static int[] words(String text, int from) {
        int[] words = new int[5];
        for (int index = 0; index < 20; index++) {
            int letter = from + index < text.length() ? text.charAt(from + index) : ' ';
            words[index / 4] = words[index / 4] << 8 | letter;
        }
        return words;
    }

    static Object read(WhoKnows x, String text) {
        put(x, text);
        return answer(x::readText);
    }

    static Object run(WhoKnows x, String text) {
        put(x, text);
        return answer(x::runOrders);
    }

    static Object ask(WhoKnows x, String text) {
        put(x, text);
        return answer(x::ask);
    }

    static WhoKnows told(String text) {
        WhoKnows x = new WhoKnows();
        Object answer = read(x, text);
        if (!(answer instanceof Integer)) {
            same("readText of " + text, answer + " " + x.errorCode() + " " + x.errorPosition(), "a number");
        }
        return x;
    }

    static void badText(String text, int code, int position) {
        WhoKnows x = new WhoKnows();
        argument("readText of \"" + text + "\"", () -> {
            put(x, text);
            return x.readText();
        });
        error("readText of \"" + text + "\"", x, code, position);
    }

    static void badOrders(String description, String text, int code, int position) {
        WhoKnows x = told(description);
        same("runOrders of \"" + text + "\"", run(x, text), "throws.IllegalArgumentException");
        error("runOrders of \"" + text + "\"", x, code, position);
    }

    static void badAsk(String description, String text, int code, int position) {
        WhoKnows x = told(description);
        same("ask of \"" + text + "\"", ask(x, text), "throws.IllegalArgumentException");
        error("ask of \"" + text + "\"", x, code, position);
    }

    static void error(String what, WhoKnows x, int code, int position) {
        same(what + ": errorCode()", x.errorCode(), code);
        same(what + ": errorPosition()", x.errorPosition(), position);
    }

    static String output(WhoKnows x) {
        StringBuilder text = new StringBuilder();
        for (int index = 0; x.outputByte(index) != WhoKnows.NONE; index++) {
            text.append((char) x.outputByte(index));
        }
        return text.toString();
    }

    /** How long the input buffer is, which must have room for 20 bytes. */
    static int length(WhoKnows x) {
        return x.truncate(x.append(0, 0, 0, 0, 0) - 20);
    }

    /** What is known of facts, persons, worlds, QUESTION, the LOG and the accounts. */
    static String known(WhoKnows x) {
        StringBuilder text = new StringBuilder();
        for (int what = 0; what <= 8; what++) {
            text.append(x.size(what)).append(' ');
        }
        names(x, false, x.size(0), text);
        names(x, true, x.size(1), text);
        for (int person = 0; person < x.size(1); person++) {
            text.append(" sees ").append(x.sees(person)).append(" alike");
            for (int world = 0; world < 1 << x.size(0); world++) {
                text.append(' ').append(x.alike(person, world));
            }
        }
        text.append(" worlds ").append(x.worlds()).append(" truth ").append(x.truth()).append(" log");
        for (int index = 0; index < x.size(8); index++) {
            text.append(' ').append(x.log(index, 0)).append(' ').append(x.log(index, 1)).append(' ');
            text.append(x.log(index, 2)).append(',');
        }
        text.append(" accounts");
        for (int what = 0; what <= 6; what++) {
            text.append(' ').append(x.account(what));
        }
        return text.toString();
    }

    private static void names(WhoKnows x, boolean isPerson, int count, StringBuilder text) {
        for (int number = 0; number < count; number++) {
            for (int index = 0; x.letter(isPerson, number, index) != WhoKnows.NONE; index++) {
                text.append((char) x.letter(isPerson, number, index));
            }
            text.append(' ');
        }
    }

    /** All that can be asked without a change, but for the input buffer and what was saved. */
    static String all(WhoKnows x) {
        return known(x) + " changes " + x.size(9) + " error " + x.errorCode() + " " + x.errorPosition() + " output "
                + output(x);
    }

    static String times(String text, int times) {
        return text.repeat(times);
    }
}
