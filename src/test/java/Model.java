import java.util.ArrayDeque;
import java.util.ArrayList;
import java.util.Arrays;
import java.util.BitSet;
import java.util.LinkedHashMap;
import java.util.LinkedList;
import java.util.List;
import java.util.Map;
import java.util.Set;
import java.util.TreeSet;

/**
 * The document once more, written as plainly as the Java library allows and without a look at the program: formulas
 * are trees, sets are sets, pairs of worlds are pairs. RandomRuns compares the program with it.
 */
public final class Model {
    private static final Set<String> RESERVED =
            Set.of("not", "and", "or", "knows", "maybe", "all", "common", "that");

    private static final class Bad extends Exception {
        private static final long serialVersionUID = 1L;
        final int code;
        final int position;

        Bad(int code, int position) {
            this.code = code;
            this.position = position;
        }
    }

    private record Node(String word, int number, Node one, Node two) {
        int count() {
            return 1 + (one == null ? 0 : one.count()) + (two == null ? 0 : two.count());
        }

        int depth() {
            int below = Math.max(one == null ? 0 : one.depth(), two == null ? 0 : two.depth());
            return Set.of("knows", "maybe", "all", "common").contains(word) ? below + 1 : below;
        }
    }

    private record Act(int sort, Node formula, TreeSet<Integer> persons, int fact) {
    }

    private static final class State {
        List<String> facts = new ArrayList<>();
        List<String> persons = new ArrayList<>();
        List<TreeSet<Integer>> sees = new ArrayList<>();
        TreeSet<Integer> first = new TreeSet<>();
        TreeSet<Integer> left = new TreeSet<>();
        // One bit for each person, world and other world.
        BitSet alike = new BitSet();
        int real;
        int laws;
        Node question;
        LinkedList<int[]> log = new LinkedList<>();
        int[] accounts = new int[7];

        State copy() {
            State other = new State();
            other.facts = facts;
            other.persons = persons;
            other.sees = sees;
            other.first = first;
            other.left = new TreeSet<>(left);
            other.alike = (BitSet) alike.clone();
            other.real = real;
            other.laws = laws;
            other.question = question;
            other.log = new LinkedList<>(log);
            other.accounts = accounts.clone();
            return other;
        }

        static int triple(int person, int world, int other) {
            return (person * 32 + world) * 32 + other;
        }

        boolean isAlike(int person, int world, int other) {
            return left.contains(world) && left.contains(other) && alike.get(triple(person, world, other));
        }

        boolean knowsAt(int person, int world, Set<Integer> truth) {
            for (int other : left) {
                if (isAlike(person, world, other) && !truth.contains(other)) {
                    return false;
                }
            }
            return true;
        }

        Map<Integer, Integer> distances(int world) {
            Map<Integer, Integer> found = new LinkedHashMap<>();
            ArrayDeque<Integer> queue = new ArrayDeque<>();
            if (left.contains(world)) {
                found.put(world, 0);
                queue.add(world);
            }
            while (!queue.isEmpty()) {
                int from = queue.remove();
                for (int person = 0; person < persons.size(); person++) {
                    for (int to : left) {
                        if (isAlike(person, from, to) && !found.containsKey(to)) {
                            found.put(to, found.get(from) + 1);
                            queue.add(to);
                        }
                    }
                }
            }
            return found;
        }

        TreeSet<Integer> truth(Node node) {
            TreeSet<Integer> one = node.one() == null ? null : truth(node.one());
            TreeSet<Integer> two = node.two() == null ? null : truth(node.two());
            TreeSet<Integer> found = new TreeSet<>();
            for (int world : left) {
                if (isTrue(node, one, two, world)) {
                    found.add(world);
                }
            }
            return found;
        }

        private boolean isTrue(Node node, Set<Integer> one, Set<Integer> two, int world) {
            switch (node.word()) {
                case "fact":
                    return (world & 1 << node.number()) != 0;
                case "not":
                    return !one.contains(world);
                case "and":
                    return one.contains(world) && two.contains(world);
                case "or":
                    return one.contains(world) || two.contains(world);
                case "knows":
                    return knowsAt(node.number(), world, one);
                case "maybe":
                    for (int other : left) {
                        if (isAlike(node.number(), world, other) && one.contains(other)) {
                            return true;
                        }
                    }
                    return false;
                case "all":
                    for (int person = 0; person < persons.size(); person++) {
                        if (!knowsAt(person, world, one)) {
                            return false;
                        }
                    }
                    return true;
                default:
                    return one.containsAll(distances(world).keySet());
            }
        }

        /** 0 done, or the reason of the refusal. */
        int reason(int sort, int person, Set<Integer> truth) {
            if (!truth.contains(real)) {
                return 1;
            }
            return sort == 1 && !knowsAt(person, real, truth) ? 2 : 0;
        }

        TreeSet<Integer> staying(int sort, int person, Set<Integer> truth) {
            TreeSet<Integer> stay = new TreeSet<>();
            for (int world : left) {
                if (sort == 0 ? truth.contains(world) : knowsAt(person, world, truth)) {
                    stay.add(world);
                }
            }
            return stay;
        }

        void leave(int sort, int persons, Set<Integer> stay) {
            int gone = 0;
            for (int world : left) {
                if (!stay.contains(world)) {
                    gone |= 1 << world;
                    accounts[5]++;
                }
            }
            left.retainAll(stay);
            note(sort, persons, gone);
        }

        private void note(int sort, int persons, int gone) {
            log.addFirst(new int[] {sort, persons, gone});
            if (log.size() > 20) {
                log.removeLast();
            }
            accounts[sort]++;
        }

        int split(int sort, Set<Integer> hearers, Set<Integer> truth) {
            int pairs = 0;
            for (int person : hearers) {
                for (int world : left) {
                    for (int other : left) {
                        if (isAlike(person, world, other) && truth.contains(world) != truth.contains(other)) {
                            alike.clear(triple(person, world, other));
                            alike.clear(triple(person, other, world));
                            pairs++;
                        }
                    }
                }
            }
            accounts[6] += pairs;
            note(sort, bits(hearers), 0);
            return pairs;
        }

        TreeSet<Integer> deciders(int world, int fact) {
            TreeSet<Integer> found = new TreeSet<>();
            TreeSet<Integer> yes = truth(new Node("fact", fact, null, null));
            TreeSet<Integer> no = new TreeSet<>(left);
            no.removeAll(yes);
            for (int person = 0; person < persons.size(); person++) {
                if (knowsAt(person, world, yes) || knowsAt(person, world, no)) {
                    found.add(person);
                }
            }
            return found;
        }

        int goRound(int fact) {
            TreeSet<Integer> due = deciders(real, fact);
            TreeSet<Integer> stay = new TreeSet<>();
            for (int world : left) {
                if (deciders(world, fact).equals(due)) {
                    stay.add(world);
                }
            }
            leave(4, 0, stay);
            return bits(due);
        }

        int knowers() {
            TreeSet<Integer> found = new TreeSet<>();
            for (int person = 0; person < persons.size(); person++) {
                if (knowsAt(person, real, Set.of(real))) {
                    found.add(person);
                }
            }
            return bits(found);
        }

        boolean perform(Act act) {
            int person = act.persons().isEmpty() ? -1 : act.persons().first();
            if (act.sort() == 4) {
                goRound(act.fact());
                return true;
            }
            TreeSet<Integer> truth = truth(act.sort() == 3 ? new Node("fact", act.fact(), null, null) : act.formula());
            if (act.sort() >= 2) {
                split(act.sort(), act.persons(), truth);
                return true;
            }
            if (reason(act.sort(), person, truth) != 0) {
                return false;
            }
            leave(act.sort(), bits(act.persons()), staying(act.sort(), person, truth));
            return true;
        }
    }

    /** Recursive descent over the text itself. */
    private static final class Parser {
        final String text;
        int place = 0;
        int open;
        int nodes;

        Parser(String text) {
            this.text = text;
        }

        void spaces() {
            while (place < text.length() && text.charAt(place) == ' ') {
                place++;
            }
        }

        int position() {
            spaces();
            return place;
        }

        boolean atEnd() {
            return position() == text.length();
        }

        String peek() {
            spaces();
            int end = place;
            while (end < text.length() && text.charAt(end) >= 'a' && text.charAt(end) <= 'z') {
                end++;
            }
            return end > place ? text.substring(place, end) : atEnd() ? "" : text.substring(place, place + 1);
        }

        boolean peekIsName() {
            return peek().matches("[a-z]{1,6}") && !RESERVED.contains(peek());
        }

        void skip() {
            place = position() + peek().length();
        }

        Bad bad(int code) {
            return new Bad(code, position());
        }

        void expect(String token) throws Bad {
            if (!peek().equals(token)) {
                throw bad(1);
            }
            skip();
        }

        String fresh(List<String> names, int most) throws Bad {
            if (!peekIsName()) {
                throw bad(1);
            }
            if (names.contains(peek())) {
                throw bad(2);
            }
            if (names.size() == most) {
                throw bad(3);
            }
            String name = peek();
            skip();
            return name;
        }

        int old(List<String> names) throws Bad {
            if (!peekIsName()) {
                throw bad(1);
            }
            if (!names.contains(peek())) {
                throw bad(2);
            }
            return names.indexOf(peek());
        }

        int takeOld(List<String> names) throws Bad {
            int number = old(names);
            skip();
            return number;
        }

        TreeSet<Integer> several(List<String> names) throws Bad {
            TreeSet<Integer> found = new TreeSet<>();
            while (peekIsName()) {
                int number = old(names);
                if (!found.add(number)) {
                    throw bad(2);
                }
                skip();
            }
            return found;
        }

        Node formula(State state, boolean isLaw) throws Bad {
            open = 0;
            nodes = 0;
            return disjunction(state, isLaw);
        }

        private void countNode() throws Bad {
            if (++nodes > 60) {
                throw bad(3);
            }
        }

        private Node disjunction(State state, boolean isLaw) throws Bad {
            Node node = conjunction(state, isLaw);
            while (peek().equals("or")) {
                countNode();
                skip();
                node = new Node("or", 0, node, conjunction(state, isLaw));
            }
            return node;
        }

        private Node conjunction(State state, boolean isLaw) throws Bad {
            Node node = item(state, isLaw);
            while (peek().equals("and")) {
                countNode();
                skip();
                node = new Node("and", 0, node, item(state, isLaw));
            }
            return node;
        }

        private Node item(State state, boolean isLaw) throws Bad {
            String word = peek();
            if (word.equals("(")) {
                if (++open > 8) {
                    throw bad(1);
                }
                skip();
                Node node = disjunction(state, isLaw);
                expect(")");
                open--;
                return node;
            }
            if (word.equals("not") || !isLaw && (word.equals("all") || word.equals("common"))) {
                countNode();
                skip();
                return new Node(word, 0, item(state, isLaw), null);
            }
            if (!isLaw && (word.equals("knows") || word.equals("maybe"))) {
                countNode();
                skip();
                int person = takeOld(state.persons);
                return new Node(word, person, item(state, isLaw), null);
            }
            int fact = old(state.facts);
            countNode();
            skip();
            return new Node("fact", fact, null, null);
        }

        State description() throws Bad {
            State state = new State();
            expect("facts");
            do {
                state.facts.add(fresh(state.facts, 5));
            } while (peekIsName());
            for (int world = 0; world < 1 << state.facts.size(); world++) {
                state.left.add(world);
            }
            expect(";");
            while (peek().equals("law")) {
                int position = position();
                if (state.laws == 6) {
                    throw bad(3);
                }
                skip();
                state.left = state.truth(formula(state, true));
                state.laws++;
                if (state.left.isEmpty()) {
                    throw new Bad(4, position);
                }
                expect(";");
            }
            state.real = state.left.first();
            boolean isReal = false;
            while (!isReal) {
                isReal = readPersonOrReal(state);
                if (atEnd()) {
                    break;
                }
                if (isReal) {
                    throw bad(1);
                }
                expect(";");
            }
            state.first = new TreeSet<>(state.left);
            begin(state);
            return state;
        }

        private boolean readPersonOrReal(State state) throws Bad {
            int position = position();
            if (peek().equals("real") && !state.persons.isEmpty()) {
                skip();
                state.real = bits(several(state.facts));
                if (!state.left.contains(state.real)) {
                    throw new Bad(4, position);
                }
                return true;
            }
            if (!peek().equals("person")) {
                throw bad(1);
            }
            if (state.persons.size() == 5) {
                throw bad(3);
            }
            skip();
            state.persons.add(fresh(state.persons, 5));
            state.sees.add(several(state.facts));
            return false;
        }

        private static void begin(State state) {
            state.question = new Node("fact", 0, null, null);
            for (int person = 0; person < state.persons.size(); person++) {
                int mask = bits(state.sees.get(person));
                for (int world : state.left) {
                    for (int other : state.left) {
                        if ((world & mask) == (other & mask)) {
                            state.alike.set(State.triple(person, world, other));
                        }
                    }
                }
            }
        }

        List<Act> orders(State state) throws Bad {
            List<Act> acts = new ArrayList<>();
            List<String> words = Arrays.asList("announce", "say", "whisper", "show", "round");
            while (!atEnd()) {
                int sort = words.indexOf(peek());
                if (sort < 0) {
                    throw bad(1);
                }
                if (acts.size() == 20) {
                    throw bad(3);
                }
                skip();
                acts.add(act(state, sort));
                expect(";");
            }
            return acts;
        }

        private Act act(State state, int sort) throws Bad {
            TreeSet<Integer> persons = new TreeSet<>();
            if (sort == 2) {
                if (!peekIsName()) {
                    throw bad(1);
                }
                persons = several(state.persons);
                expect("that");
            } else if (sort == 1 || sort == 3) {
                persons.add(takeOld(state.persons));
            }
            if (sort >= 3) {
                return new Act(sort, null, persons, takeOld(state.facts));
            }
            return new Act(sort, formula(state, false), persons, 0);
        }
    }

    private final StringBuilder buffer = new StringBuilder();
    private State now;
    private State saved;
    private final LinkedList<State> past = new LinkedList<>();
    private String output = "";
    private int errorCode = 0;
    private int errorPosition = -1;

    public Model() {
        try {
            now = new Parser("facts a;person p").description();
        } catch (Bad bad) {
            throw new IllegalStateException(bad);
        }
    }

    static int bits(Set<Integer> set) {
        int bits = 0;
        for (int number : set) {
            bits |= 1 << number;
        }
        return bits;
    }

    private void needPerson(int person) {
        if (person < 0 || person >= now.persons.size()) {
            throw new IndexOutOfBoundsException();
        }
    }

    private void needFact(int fact) {
        if (fact < 0 || fact >= now.facts.size()) {
            throw new IndexOutOfBoundsException();
        }
    }

    private void needWorld(int world) {
        if (world < 0 || world >= 1 << now.facts.size()) {
            throw new IndexOutOfBoundsException();
        }
    }

    private TreeSet<Integer> personsOf(int set) {
        TreeSet<Integer> found = new TreeSet<>();
        for (int bit = 0; bit < 32; bit++) {
            if ((set >>> bit & 1) == 1) {
                if (bit >= now.persons.size()) {
                    throw new IllegalArgumentException();
                }
                found.add(bit);
            }
        }
        return found;
    }

    private void remember() {
        past.addFirst(now.copy());
        if (past.size() > 8) {
            past.removeLast();
        }
    }

    public int append(int a, int b, int c, int d, int e) {
        if (buffer.length() + 20 > 600) {
            throw new IllegalStateException();
        }
        for (int number : new int[] {a, b, c, d, e}) {
            buffer.append((char) (number >>> 24)).append((char) (number >>> 16 & 255));
            buffer.append((char) (number >>> 8 & 255)).append((char) (number & 255));
        }
        return buffer.length();
    }

    public int truncate(int length) {
        if (length < 0 || length > buffer.length()) {
            throw new IllegalArgumentException();
        }
        buffer.setLength(length);
        return length;
    }

    private Parser parser() {
        Parser parser = new Parser(buffer.toString());
        buffer.setLength(0);
        errorCode = 0;
        errorPosition = -1;
        return parser;
    }

    private IllegalArgumentException failed(Bad bad) {
        errorCode = bad.code;
        errorPosition = bad.position;
        return new IllegalArgumentException();
    }

    public int readText() {
        try {
            now = parser().description();
        } catch (Bad bad) {
            throw failed(bad);
        }
        past.clear();
        return now.left.size();
    }

    public int runOrders() {
        List<Act> acts;
        try {
            acts = parser().orders(now);
        } catch (Bad bad) {
            throw failed(bad);
        }
        remember();
        int done = 0;
        for (Act act : acts) {
            if (!now.perform(act)) {
                break;
            }
            done++;
        }
        return done;
    }

    public int ask() {
        Node question;
        try {
            Parser parser = parser();
            question = parser.formula(now, false);
            if (!parser.atEnd()) {
                throw parser.bad(1);
            }
        } catch (Bad bad) {
            throw failed(bad);
        }
        remember();
        now.question = question;
        return question.count();
    }

    public int errorCode() {
        return errorCode;
    }

    public int errorPosition() {
        return errorPosition;
    }

    public int size(int what) {
        if (what < 0 || what > 9) {
            throw new IllegalArgumentException();
        }
        return new int[] {now.facts.size(), now.persons.size(), now.left.size(), now.first.size(), now.real,
            now.question.count(), now.question.depth(), now.laws, now.log.size(), past.size()}[what];
    }

    public int letter(boolean isPerson, int number, int index) {
        List<String> names = isPerson ? now.persons : now.facts;
        if (number < 0 || number >= names.size()) {
            throw new IndexOutOfBoundsException();
        }
        return index >= 0 && index < names.get(number).length() ? names.get(number).charAt(index) : -1;
    }

    public int sees(int person) {
        needPerson(person);
        return bits(now.sees.get(person));
    }

    public int worlds() {
        return bits(now.left);
    }

    private TreeSet<Integer> alikes(int person, int world) {
        TreeSet<Integer> found = new TreeSet<>();
        for (int other : now.left) {
            if (now.isAlike(person, world, other)) {
                found.add(other);
            }
        }
        return found;
    }

    public int alike(int person, int world) {
        needPerson(person);
        needWorld(world);
        return bits(alikes(person, world));
    }

    private List<TreeSet<Integer>> kindsOf(int person) {
        List<TreeSet<Integer>> kinds = new ArrayList<>();
        for (int world : now.left) {
            if (!kinds.contains(alikes(person, world))) {
                kinds.add(alikes(person, world));
            }
        }
        return kinds;
    }

    public int kinds(int person) {
        needPerson(person);
        return kindsOf(person).size();
    }

    public int doubts(int person) {
        needPerson(person);
        int pairs = 0;
        for (int world : now.left) {
            for (int other : now.left) {
                if (world < other && now.isAlike(person, world, other)) {
                    pairs++;
                }
            }
        }
        return pairs;
    }

    public int reach(int world) {
        needWorld(world);
        return bits(now.distances(world).keySet());
    }

    public int steps(int world, int other) {
        needWorld(world);
        needWorld(other);
        return now.distances(world).getOrDefault(other, -1);
    }

    public boolean holds(int world) {
        needWorld(world);
        return now.truth(now.question).contains(world);
    }

    public int truth() {
        return bits(now.truth(now.question));
    }

    private int knowing(boolean orNot) {
        int found = 0;
        for (int person = 0; person < now.persons.size(); person++) {
            boolean knows = now.truth(new Node("knows", person, now.question, null)).contains(now.real);
            Node not = new Node("not", 0, now.question, null);
            boolean knowsNot = now.truth(new Node("knows", person, not, null)).contains(now.real);
            if (knows || orNot && knowsNot) {
                found |= 1 << person;
            }
        }
        return found;
    }

    public int who() {
        return knowing(false);
    }

    public int whether() {
        return knowing(true);
    }

    public boolean isCommon() {
        return now.truth(new Node("common", 0, now.question, null)).contains(now.real);
    }

    public int level() {
        Node node = now.question;
        for (int times = 0; times < 70; times++) {
            if (!now.truth(node).contains(now.real)) {
                return times - 1;
            }
            node = new Node("all", 0, node, null);
        }
        return 99;
    }

    public int unlike() {
        return 0;
    }

    public int knowsFact(int person, int fact) {
        needPerson(person);
        needFact(fact);
        Set<Integer> values = new TreeSet<>();
        for (int world : alikes(person, now.real)) {
            values.add(world >> fact & 1);
        }
        return values.size() == 1 ? values.iterator().next() : -1;
    }

    public int knowers() {
        return now.knowers();
    }

    private int would(int sort, int person) {
        TreeSet<Integer> truth = now.truth(now.question);
        int reason = now.reason(sort, person, truth);
        return reason != 0 ? -reason : now.staying(sort, person, truth).size();
    }

    public int wouldLeave() {
        return would(0, -1);
    }

    public int wouldSay(int person) {
        needPerson(person);
        return would(1, person);
    }

    public int wouldKnow(int persons) {
        State then = now.copy();
        then.split(2, personsOf(persons), then.truth(then.question));
        return then.knowers();
    }

    public int roundsTo(int fact) {
        needFact(fact);
        State then = now.copy();
        for (int rounds = 0; true; rounds++) {
            if (then.deciders(then.real, fact).size() == then.persons.size()) {
                return rounds;
            }
            int before = then.left.size();
            then.goRound(fact);
            if (then.left.size() == before) {
                return -1;
            }
        }
    }

    public int bestFact() {
        int best = -1;
        int fewest = 99;
        for (int fact = 0; fact < now.facts.size(); fact++) {
            int count = 0;
            for (int world : now.left) {
                if ((world >> fact & 1) == (now.real >> fact & 1)) {
                    count++;
                }
            }
            if (count < fewest) {
                best = fact;
                fewest = count;
            }
        }
        return best;
    }

    public int leastShown(int person) {
        needPerson(person);
        for (int size = 0; size <= 5; size++) {
            for (int set = 0; set < 1 << now.facts.size(); set++) {
                if (Integer.bitCount(set) == size && shownEnough(person, set)) {
                    return set;
                }
            }
        }
        return -99;
    }

    private boolean shownEnough(int person, int set) {
        State then = now.copy();
        for (int fact = 0; fact < now.facts.size(); fact++) {
            if ((set >> fact & 1) == 1) {
                then.split(3, Set.of(person), then.truth(new Node("fact", fact, null, null)));
            }
        }
        return (then.knowers() >> person & 1) == 1;
    }

    public int log(int index, int what) {
        if (what < 0 || what > 2) {
            throw new IllegalArgumentException();
        }
        return index < 0 || index >= now.log.size() ? -1 : now.log.get(index)[what];
    }

    public int account(int what) {
        if (what < 0 || what > 6) {
            throw new IllegalArgumentException();
        }
        return now.accounts[what];
    }

    public int gap() {
        return now.first.size() - now.left.size() - now.accounts[5];
    }

    public float share() {
        return (float) now.left.size() / (float) now.first.size();
    }

    public double meanAlike() {
        int sum = 0;
        for (int person = 0; person < now.persons.size(); person++) {
            for (int world : now.left) {
                sum += alikes(person, world).size();
            }
        }
        return (double) sum / (double) (now.left.size() * now.persons.size());
    }

    private int tell(int sort, int person) {
        TreeSet<Integer> truth = now.truth(now.question);
        int reason = now.reason(sort, person, truth);
        if (reason != 0) {
            return -reason;
        }
        remember();
        now.leave(sort, sort == 0 ? 0 : 1 << person, now.staying(sort, person, truth));
        return now.left.size();
    }

    public int announce() {
        return tell(0, -1);
    }

    public int say(int person) {
        needPerson(person);
        return tell(1, person);
    }

    public int whisper(int persons) {
        TreeSet<Integer> hearers = personsOf(persons);
        if (hearers.isEmpty()) {
            throw new IllegalArgumentException();
        }
        remember();
        return now.split(2, hearers, now.truth(now.question));
    }

    public int show(int person, int fact) {
        needPerson(person);
        needFact(fact);
        remember();
        return now.split(3, Set.of(person), now.truth(new Node("fact", fact, null, null)));
    }

    public int round(int fact) {
        needFact(fact);
        remember();
        return now.goRound(fact);
    }

    public int writeWorld(int world) {
        needWorld(world);
        List<String> names = new ArrayList<>();
        for (int fact = 0; fact < now.facts.size(); fact++) {
            if ((world >> fact & 1) == 1) {
                names.add(now.facts.get(fact));
            }
        }
        String ahead = world == now.real ? "!" : now.left.contains(world) ? "" : "x ";
        output = ahead + (names.isEmpty() ? "-" : String.join("+", names));
        return output.length();
    }

    public int writeKinds(int person) {
        needPerson(person);
        List<String> sets = new ArrayList<>();
        for (TreeSet<Integer> kind : kindsOf(person)) {
            List<String> numbers = new ArrayList<>();
            for (int world : kind) {
                numbers.add(String.valueOf(world));
            }
            sets.add(String.join(" ", numbers));
        }
        output = String.join("|", sets);
        return output.length();
    }

    private String written(Node node) {
        switch (node.word()) {
            case "fact":
                return now.facts.get(node.number());
            case "and":
            case "or":
                return "(" + written(node.one()) + " " + node.word() + " " + written(node.two()) + ")";
            case "knows":
            case "maybe":
                return node.word() + " " + now.persons.get(node.number()) + " " + written(node.one());
            default:
                return node.word() + " " + written(node.one());
        }
    }

    public int writeQuestion() {
        output = written(now.question);
        return output.length();
    }

    public int outputByte(int index) {
        return index >= 0 && index < output.length() ? output.charAt(index) : -1;
    }

    public int undo() {
        if (past.isEmpty()) {
            return -1;
        }
        now = past.removeFirst();
        return past.size();
    }

    public int save() {
        saved = now.copy();
        return now.left.size();
    }

    public int restore() {
        if (saved == null) {
            throw new IllegalStateException();
        }
        now = saved.copy();
        past.clear();
        return now.left.size();
    }
}
