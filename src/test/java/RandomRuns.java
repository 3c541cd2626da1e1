import java.lang.reflect.InvocationTargetException;
import java.lang.reflect.Method;
import java.util.ArrayList;
import java.util.Arrays;
import java.util.Comparator;
import java.util.List;
import java.util.Map;
import java.util.Random;
import java.util.TreeMap;

/** Long runs of calls, most of them sensible, on the program and on the Model; both must answer the same. */
public final class RandomRuns {
    private static final int RUNS = 300;
    private static final int CALLS = 300;
    private static final String[] FACTS = {"a", "b", "rain", "law", "person", "d", "real", "sunny", "e"};
    private static final String[] PERSONS = {"p", "q", "ann", "real", "a", "person", "zoe"};
    private static final String[] ODD = {"not", "and", "or", "that", "all", "knows", "seventh", "x", ";", "(", ")",
        "$", "A", "0", "\0", "\u00ff", "announce", "real", "law", "{", "`"};

    private final Random random;
    private final List<Method> calls = new ArrayList<>();
    private final Map<String, Integer> outcomes;
    private WhoKnows program;
    private Model model;
    private List<String> facts = List.of("a");
    private List<String> persons = List.of("p");
    private int wrong = 0;

    private RandomRuns(int seed, Map<String, Integer> outcomes) {
        random = new Random(seed);
        this.outcomes = outcomes;
        for (Method method : WhoKnows.class.getDeclaredMethods()) {
            if (java.lang.reflect.Modifier.isPublic(method.getModifiers())) {
                calls.add(method);
            }
        }
        calls.sort(Comparator.comparing(Method::getName));
    }

    public static void main(String[] args) throws Exception {
        Map<String, Integer> outcomes = new TreeMap<>();
        int wrong = 0;
        int runs = args.length > 0 ? Integer.parseInt(args[0]) : RUNS;
        for (int seed = 0; seed < runs && wrong == 0; seed++) {
            RandomRuns run = new RandomRuns(seed, outcomes);
            run.play();
            wrong += run.wrong;
            if (run.wrong > 0) {
                System.out.println("seed " + seed);
            }
        }
        for (String name : new String[] {"readText ok", "readText error 1", "readText error 2", "readText error 3",
            "readText error 4", "runOrders ok", "runOrders error 1", "runOrders error 2", "runOrders error 3",
            "ask ok", "ask error 1", "ask error 2", "ask error 3", "announce -1", "say -1", "say -2", "announce ok",
            "say ok", "level ok", "level 99", "roundsTo ok", "roundsTo -1", "undo ok", "undo -1", "restore ok",
            "restore throws", "append throws", "append ok"}) {
            if (!outcomes.containsKey(name)) {
                System.out.println("no run came to: " + name);
                wrong++;
            }
        }
        if (args.length > 0) {
            System.out.println(outcomes);
        }
        System.out.println("RandomRuns: " + wrong + " wrong");
        System.exit(wrong == 0 ? 0 : 1);
    }

    private void play() throws Exception {
        program = new WhoKnows();
        model = new Model();
        if (random.nextInt(10) > 0) {
            readDescription(false);
        }
        for (int call = 0; call < CALLS && wrong == 0; call++) {
            step();
        }
    }

    private void step() throws Exception {
        int what = random.nextInt(100);
        if (what < 5) {
            readDescription(random.nextInt(2) == 0);
        } else if (what < 12) {
            put(maybeBroken(orders(), random.nextInt(3) == 0));
            compare("runOrders");
        } else if (what < 20) {
            put(maybeBroken(formula(random.nextInt(6), false), random.nextInt(3) == 0));
            compare("ask");
        } else if (what < 21) {
            put("(".repeat(random.nextInt(10)) + "not ".repeat(random.nextInt(64)) + facts.get(0));
            compare("ask");
        } else if (what < 22 && random.nextInt(4) == 0) {
            for (int count = 0; count < 31; count++) {
                compare("append", number(), number(), number(), number(), number());
            }
        } else {
            Method method = calls.get(random.nextInt(calls.size()));
            Class<?>[] types = method.getParameterTypes();
            Object[] values = new Object[types.length];
            for (int index = 0; index < types.length; index++) {
                values[index] = types[index] == boolean.class ? (Object) random.nextBoolean() : (Object) number();
            }
            compare(method.getName(), values);
            if (method.getName().startsWith("write")) {
                compareOutput();
            }
            if (method.getName().equals("undo") || method.getName().equals("restore")) {
                compareAll();
            }
        }
        if (random.nextInt(40) == 0) {
            compareAll();
        }
    }

    private int number() {
        int what = random.nextInt(20);
        if (what < 12) {
            return random.nextInt(6);
        }
        if (what < 18) {
            return random.nextInt(34) - 1;
        }
        return what == 18 ? Integer.MIN_VALUE : random.nextInt();
    }

    private void compareOutput() throws Exception {
        for (int index = -1; index < 30; index++) {
            compare("outputByte", index);
        }
        for (int index = 30; model.outputByte(index - 1) >= 0; index++) {
            compare("outputByte", index);
        }
    }

    private void compareAll() throws Exception {
        for (int what = 0; what <= 9; what++) {
            compare("size", what);
        }
        for (int what = 0; what <= 6; what++) {
            compare("account", what);
        }
        for (int index = 0; index <= 20; index++) {
            for (int what = 0; what <= 2; what++) {
                compare("log", index, what);
            }
        }
        for (int person = 0; person < model.size(1); person++) {
            compare("sees", person);
            for (int world = 0; world < 1 << model.size(0); world++) {
                compare("alike", person, world);
            }
        }
        for (int index = 0; index < 6; index++) {
            compare("letter", true, 0, index);
            compare("letter", false, model.size(0) - 1, index);
        }
        for (String name : new String[] {"worlds", "truth", "who", "whether", "isCommon", "level", "unlike", "knowers",
            "gap", "share", "meanAlike", "errorCode", "errorPosition"}) {
            compare(name);
        }
    }

    private Object answer(Object target, String name, Object[] values) throws Exception {
        for (Method method : target.getClass().getDeclaredMethods()) {
            if (method.getName().equals(name) && java.lang.reflect.Modifier.isPublic(method.getModifiers())) {
                try {
                    return method.invoke(target, values);
                } catch (InvocationTargetException e) {
                    return "throws." + e.getCause().getClass().getSimpleName();
                }
            }
        }
        throw new IllegalStateException(name);
    }

    private Object compare(String name, Object... values) throws Exception {
        Object got = answer(program, name, values);
        Object due = answer(model, name, values);
        note(name, due);
        if (!got.equals(due)) {
            wrong++;
            System.out.println(name + Arrays.toString(values) + " answered " + got + ", due is " + due);
        }
        return due;
    }

    private void note(String name, Object due) throws Exception {
        String end = "ok";
        if (name.equals("readText") || name.equals("runOrders") || name.equals("ask")) {
            end = model.errorCode() == 0 ? "ok" : "error " + model.errorCode();
            if (program.errorCode() != model.errorCode() || program.errorPosition() != model.errorPosition()) {
                wrong++;
                System.out.println(name + " error " + program.errorCode() + " at " + program.errorPosition()
                        + ", due is " + model.errorCode() + " at " + model.errorPosition());
            }
        } else if (due instanceof String) {
            end = "throws";
        } else if (due.equals(-1) || due.equals(-2) || due.equals(99)) {
            end = due.toString();
        }
        outcomes.merge(name + " " + end, 1, Integer::sum);
    }

    private void put(String text) throws Exception {
        String shown = text.length() > 590 ? text.substring(0, 590) : text;
        if (random.nextInt(30) > 0) {
            compare("truncate", 0);
        }
        Object length = compare("append", 0, 0, 0, 0, 0);
        int before = length instanceof Integer ? (Integer) length - 20 : 0;
        compare("truncate", before);
        int whole = (shown.length() + 19) / 20;
        if (before + whole * 20 > 600) {
            compare("truncate", 0);
            before = 0;
        }
        for (int from = 0; from < shown.length(); from += 20) {
            Object[] words = new Object[5];
            for (int word = 0; word < 5; word++) {
                int number = 0;
                for (int index = from + word * 4; index < from + word * 4 + 4; index++) {
                    number = number << 8 | (index < shown.length() ? shown.charAt(index) : ' ');
                }
                words[word] = number;
            }
            compare("append", words);
        }
        compare("truncate", before + shown.length());
    }

    private void readDescription(boolean isBroken) throws Exception {
        List<String> newFacts = pick(FACTS, 1 + random.nextInt(isBroken ? 6 : 5));
        List<String> newPersons = pick(PERSONS, 1 + random.nextInt(isBroken ? 6 : 5));
        List<String> oldFacts = facts;
        facts = newFacts;
        StringBuilder text = new StringBuilder("facts " + String.join(" ", newFacts));
        int laws = random.nextInt(8) == 0 ? random.nextInt(8) : random.nextInt(3);
        for (int law = 0; law < laws; law++) {
            text.append(space()).append(';').append(space()).append("law ");
            text.append(formula(laws > 3 ? 0 : random.nextInt(4), true));
        }
        for (String person : newPersons) {
            text.append(space()).append(';').append(space()).append("person ").append(person);
            for (String fact : pick(newFacts.toArray(new String[0]), random.nextInt(newFacts.size() + 1))) {
                text.append(' ').append(fact);
            }
        }
        if (random.nextInt(3) == 0) {
            text.append(";real");
            for (String fact : pick(newFacts.toArray(new String[0]), random.nextInt(newFacts.size() + 1))) {
                text.append(' ').append(fact);
            }
        }
        facts = oldFacts;
        put(maybeBroken(text.toString(), isBroken));
        if (compare("readText") instanceof Integer) {
            facts = newFacts;
            persons = newPersons;
        }
    }

    private List<String> pick(String[] names, int count) {
        List<String> left = new ArrayList<>(Arrays.asList(names));
        List<String> found = new ArrayList<>();
        while (found.size() < count && !left.isEmpty()) {
            found.add(left.remove(random.nextInt(left.size())));
        }
        return found;
    }

    private String space() {
        return " ".repeat(random.nextInt(8) == 0 ? random.nextInt(3) : 0);
    }

    private String fact() {
        return facts.get(random.nextInt(facts.size()));
    }

    private String person() {
        return persons.get(random.nextInt(persons.size()));
    }

    private String formula(int size, boolean isLaw) {
        if (size <= 0) {
            return random.nextInt(3) == 0 ? "not " + fact() : fact();
        }
        switch (random.nextInt(isLaw ? 4 : 9)) {
            case 0:
                return formula(size / 2, isLaw) + " and " + formula(size / 2, isLaw);
            case 1:
                return formula(size / 2, isLaw) + " or " + formula(size / 2, isLaw);
            case 2:
                return "(" + space() + formula(size - 1, isLaw) + space() + ")";
            case 3:
                return "not " + formula(size - 1, isLaw);
            case 4:
                return "knows " + person() + " " + formula(size - 1, false);
            case 5:
                return "maybe " + person() + " " + formula(size - 1, false);
            case 6:
                return "all " + formula(size - 1, false);
            case 7:
                return "common " + formula(size - 1, false);
            default:
                return "(" + formula(size - 1, false) + ") or (" + formula(size - 1, false) + ")";
        }
    }

    private String orders() {
        StringBuilder text = new StringBuilder();
        int count = random.nextInt(12) == 0 ? 18 + random.nextInt(5) : random.nextInt(5);
        for (int order = 0; order < count; order++) {
            text.append(order(count > 10 ? 0 : random.nextInt(4))).append(space()).append(';').append(space());
        }
        return text.toString();
    }

    private String order(int size) {
        switch (random.nextInt(size == 0 ? 6 : 5)) {
            case 0:
                return "announce " + formula(size, false);
            case 1:
                return "say " + person() + " " + formula(size, false);
            case 2:
                String[] all = persons.toArray(new String[0]);
                List<String> hearers = pick(all, 1 + random.nextInt(all.length));
                return "whisper " + String.join(" ", hearers) + " that " + formula(size, false);
            case 3:
                return "show " + person() + " " + fact();
            default:
                return "round " + fact();
        }
    }

    private String maybeBroken(String text, boolean isBroken) {
        if (!isBroken || text.isEmpty()) {
            return text;
        }
        int place = random.nextInt(text.length());
        String odd = ODD[random.nextInt(ODD.length)];
        switch (random.nextInt(6)) {
            case 0:
                return text.substring(0, place);
            case 1:
                return text.substring(0, place) + text.substring(place + 1);
            case 2:
                return text.substring(0, place) + odd + text.substring(place);
            case 3:
                return text.substring(0, place) + " " + odd + " " + text.substring(place);
            case 4:
                String[] words = text.split(" ");
                words[random.nextInt(words.length)] = odd;
                return String.join(" ", words);
            default:
                return text + " " + odd;
        }
    }
}
