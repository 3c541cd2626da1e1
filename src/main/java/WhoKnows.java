/** What persons know of each other's knowledge. The document of the project promises what each method does. */
public final class WhoKnows {
    public static final int NONE = -1;
    public static final int COMMON = 99;

    private static final int MOST_FACTS = 5;
    private static final int MOST_PERSONS = 5;
    private static final int MOST_WORLDS = 32;
    private static final int MOST_LAWS = 6;
    private static final int MOST_NODES = 60;
    private static final int MOST_OPEN = 8;
    private static final int MOST_ORDERS = 20;
    private static final int MOST_ACTS = 20;
    private static final int MOST_CHANGES = 8;
    private static final int MOST_BYTES = 600;
    private static final int BYTES_AT_ONCE = 20;
    private static final int LONGEST_NAME = 6;

    private static final int MISPLACED = 1;
    private static final int MISNAMED = 2;
    private static final int TOO_MANY = 3;
    private static final int NO_WORLD = 4;

    private static final int LIE = 1;
    private static final int NOT_KNOWN = 2;

    // Sorts of acts, which are also the numbers of the accounts that count them.
    private static final int ANNOUNCE = 0;
    private static final int SAY = 1;
    private static final int WHISPER = 2;
    private static final int SHOW = 3;
    private static final int ROUND = 4;
    private static final int WORLDS_ACCOUNT = 5;
    private static final int PAIRS_ACCOUNT = 6;
    private static final int ACCOUNTS = 7;

    // Sorts of nodes, numbered so that what binds more is lower; those from NOT to COMMONLY stand ahead of an item.
    private static final int FACT = 0;
    private static final int NOT = 1;
    private static final int KNOWS = 2;
    private static final int MAYBE = 3;
    private static final int ALL = 4;
    private static final int COMMONLY = 5;
    private static final int AND = 6;
    private static final int OR = 7;
    private static final int PARENTHESIS = 8;

    // Kinds of tokens: the byte itself for all that is no word, above these NAME plus a sort of nodes for the words
    // that are no names; a name may be that of a fact.
    private static final int NAME = 256;
    private static final int THAT = 265;
    private static final int LONG_WORD = 266;
    private static final int END = 267;

    // The letters of a name are kept in one number, the first one lowest; 0 stands for no letter.
    private static final int LETTER_BITS = 5;
    private static final int LETTER_MASK = 31;
    private static final int BEFORE_LETTERS = 96;

    // What is still to be written of a formula, below all numbers of nodes.
    private static final int WRITE_AND = -1;
    private static final int WRITE_OR = -2;
    private static final int WRITE_CLOSE = -3;

    // By fact, the worlds in which it holds.
    private static final int[] HOLDING = {0xAAAAAAAA, 0xCCCCCCCC, 0xF0F0F0F0, 0xFF00FF00, 0xFFFF0000};

    private final Source source;
    private final FormulaReader formulaReader;
    private final DescriptionReader descriptionReader;
    private final OrderReader orderReader;
    private final Formula spareFormula;
    private final Knowledge spareKnowledge;
    private final int[] tasks;
    private final StringBuilder output;
    private final State now;
    private final State saved;
    private final State[] past;
    private boolean isSaved;
    private int pastCount;
    private int pastNext;

    public WhoKnows() {
        source = new Source();
        spareKnowledge = new Knowledge();
        spareFormula = new Formula();
        formulaReader = new FormulaReader(source);
        descriptionReader = new DescriptionReader(source, formulaReader, spareFormula, spareKnowledge);
        orderReader = new OrderReader(source, formulaReader);
        tasks = new int[4 * MOST_NODES];
        output = new StringBuilder();
        source.fill("facts a;person p");
        Scene scene = descriptionReader.read();
        source.finish();
        now = new State(scene);
        now.begin(scene);
        saved = new State(scene);
        past = new State[MOST_CHANGES];
        for (int change = 0; change < past.length; change++) {
            past[change] = new State(scene);
        }
    }

    public int append(int a, int b, int c, int d, int e) throws IllegalStateException {
        if (source.length > MOST_BYTES - BYTES_AT_ONCE) {
            throw new IllegalStateException();
        }
        source.addNumber(a);
        source.addNumber(b);
        source.addNumber(c);
        source.addNumber(d);
        source.addNumber(e);
        return source.length;
    }

    public int truncate(int length) throws IllegalArgumentException {
        if (length < 0 || length > source.length) {
            throw new IllegalArgumentException();
        }
        source.length = length;
        return length;
    }

    public int readText() throws IllegalArgumentException {
        Scene scene = descriptionReader.read();
        if (!source.finish()) {
            throw new IllegalArgumentException();
        }
        now.begin(scene);
        forgetChanges();
        return now.known.leftCount();
    }

    public int runOrders() throws IllegalArgumentException {
        orderReader.read(now.scene);
        if (!source.finish()) {
            throw new IllegalArgumentException();
        }
        remember();
        int done = 0;
        while (done < orderReader.count && now.carryOut(orderReader.orderAt(done))) {
            done++;
        }
        return done;
    }

    public int ask() throws IllegalArgumentException {
        source.begin();
        formulaReader.read(now.scene, false, spareFormula);
        source.needEnd();
        if (!source.finish()) {
            throw new IllegalArgumentException();
        }
        remember();
        now.question.copyFrom(spareFormula);
        return now.question.count;
    }

    public int errorCode() {
        return source.errorCode;
    }

    public int errorPosition() {
        return source.errorPosition;
    }

    public int size(int what) throws IllegalArgumentException {
        switch (what) {
            case 0:
                return now.scene.facts.count;
            case 1:
                return now.scene.persons.count;
            case 2:
                return now.known.leftCount();
            case 3:
                return Integer.bitCount(now.scene.first);
            case 4:
                return now.scene.real;
            case 5:
                return now.question.count;
            case 6:
                return now.question.depth();
            case 7:
                return now.scene.laws;
            case 8:
                return now.log.count;
            case 9:
                return pastCount;
            default:
                throw new IllegalArgumentException();
        }
    }

    public int letter(boolean isPerson, int number, int index) throws IndexOutOfBoundsException {
        Names names = isPerson ? now.scene.persons : now.scene.facts;
        if (number < 0 || number >= names.count) {
            throw new IndexOutOfBoundsException();
        }
        return names.letterOf(number, index);
    }

    public int sees(int person) throws IndexOutOfBoundsException {
        needPerson(person);
        return at(now.scene.seen, person);
    }

    public int worlds() {
        return now.known.left;
    }

    public int alike(int person, int world) throws IndexOutOfBoundsException {
        needPerson(person);
        needWorld(world);
        return now.known.likeTo(person, world);
    }

    public int kinds(int person) throws IndexOutOfBoundsException {
        needPerson(person);
        int found = 0;
        for (int world = 0; world < MOST_WORLDS; world++) {
            if (now.known.isLowest(person, world)) {
                found++;
            }
        }
        return found;
    }

    public int doubts(int person) throws IndexOutOfBoundsException {
        needPerson(person);
        // Each pair is met from both of its worlds, and each world meets itself.
        return (now.known.sumOfAlike(person) - now.known.leftCount()) / 2;
    }

    public int reach(int world) throws IndexOutOfBoundsException {
        needWorld(world);
        return now.known.reachedFrom(setOf(world));
    }

    public int steps(int world, int other) throws IndexOutOfBoundsException {
        needWorld(world);
        needWorld(other);
        return now.known.stepsBetween(world, other);
    }

    public boolean holds(int world) throws IndexOutOfBoundsException {
        needWorld(world);
        return isIn(now.questionTruth(), world);
    }

    public int truth() {
        return now.questionTruth();
    }

    public int who() {
        return now.known.knowersOf(now.scene.real, now.questionTruth());
    }

    public int whether() {
        return now.known.decidersOf(now.scene.real, now.questionTruth());
    }

    public boolean isCommon() {
        return (now.known.reachedFrom(setOf(now.scene.real)) & ~now.questionTruth()) == 0;
    }

    public int level() {
        int set = now.questionTruth();
        if (!isIn(set, now.scene.real)) {
            return NONE;
        }
        // Each time but the last one takes a world away.
        for (int times = 0; times <= MOST_WORLDS; times++) {
            int next = now.known.knownToAll(set);
            if (next == set) {
                return COMMON;
            }
            if (!isIn(next, now.scene.real)) {
                return times;
            }
            set = next;
        }
        return COMMON;
    }

    public int unlike() {
        int truth = now.questionTruth();
        int set = truth;
        boolean changes = true;
        for (int times = 0; times <= MOST_WORLDS && changes; times++) {
            int next = now.known.knownToAll(set);
            changes = next != set;
            set = next;
        }
        return set ^ now.known.prefixed(COMMONLY, 0, truth);
    }

    public int knowsFact(int person, int fact) throws IndexOutOfBoundsException {
        needPerson(person);
        needFact(fact);
        int like = now.known.likeTo(person, now.scene.real);
        int holding = at(HOLDING, fact);
        if ((like & ~holding) == 0) {
            return 1;
        }
        return (like & holding) == 0 ? 0 : NONE;
    }

    public int knowers() {
        return now.known.knowersOf(now.scene.real, setOf(now.scene.real));
    }

    public int wouldLeave() {
        return foretell(NONE, now.questionTruth());
    }

    public int wouldSay(int person) throws IndexOutOfBoundsException {
        needPerson(person);
        return foretell(person, now.questionTruth());
    }

    public int wouldKnow(int persons) throws IllegalArgumentException {
        needPersons(persons);
        spareKnowledge.copyFrom(now.known);
        spareKnowledge.tellApart(persons, now.questionTruth());
        return spareKnowledge.knowersOf(now.scene.real, setOf(now.scene.real));
    }

    public int roundsTo(int fact) throws IndexOutOfBoundsException {
        needFact(fact);
        spareKnowledge.copyFrom(now.known);
        int everybody = allBelow(now.scene.persons.count);
        // Each round but the last one takes a world away.
        for (int rounds = 0; rounds <= MOST_WORLDS; rounds++) {
            int deciders = spareKnowledge.decidersOf(now.scene.real, at(HOLDING, fact));
            if (deciders == everybody) {
                return rounds;
            }
            int stay = spareKnowledge.deciding(deciders, at(HOLDING, fact));
            if (stay == spareKnowledge.left) {
                return NONE;
            }
            spareKnowledge.left = stay;
        }
        return NONE;
    }

    public int bestFact() {
        int best = 0;
        int fewest = MOST_WORLDS + 1;
        for (int fact = 0; fact < now.scene.facts.count; fact++) {
            int stay = now.known.left & agreeing(now.scene.real, setOf(fact));
            if (Integer.bitCount(stay) < fewest) {
                best = fact;
                fewest = Integer.bitCount(stay);
            }
        }
        return best;
    }

    public int leastShown(int person) throws IndexOutOfBoundsException {
        needPerson(person);
        int like = now.known.likeTo(person, now.scene.real);
        int best = allBelow(now.scene.facts.count);
        for (int set = best; set >= 0; set--) {
            boolean isEnough = (like & agreeing(now.scene.real, set)) == setOf(now.scene.real);
            if (isEnough && Integer.bitCount(set) <= Integer.bitCount(best)) {
                best = set;
            }
        }
        return best;
    }

    public int log(int index, int what) throws IllegalArgumentException {
        if (what < 0 || what > 2) {
            throw new IllegalArgumentException();
        }
        return now.log.numberOf(index, what);
    }

    public int account(int what) throws IllegalArgumentException {
        if (what < 0 || what >= ACCOUNTS) {
            throw new IllegalArgumentException();
        }
        return at(now.log.accounts, what);
    }

    public int gap() {
        int gone = at(now.log.accounts, WORLDS_ACCOUNT);
        return Integer.bitCount(now.scene.first) - now.known.leftCount() - gone;
    }

    public float share() {
        int first = Integer.bitCount(now.scene.first);
        return first == 0 ? 0 : (float) now.known.leftCount() / (float) first;
    }

    public double meanAlike() {
        int sum = 0;
        for (int person = 0; person < now.scene.persons.count; person++) {
            sum += now.known.sumOfAlike(person);
        }
        int parts = now.known.leftCount() * now.scene.persons.count;
        return parts == 0 ? 0 : (double) sum / (double) parts;
    }

    public int announce() {
        return tell(NONE, now.questionTruth());
    }

    public int say(int person) throws IndexOutOfBoundsException {
        needPerson(person);
        return tell(person, now.questionTruth());
    }

    public int whisper(int persons) throws IllegalArgumentException {
        needPersons(persons);
        if (persons == 0) {
            throw new IllegalArgumentException();
        }
        remember();
        return now.tellApart(WHISPER, persons, now.questionTruth());
    }

    public int show(int person, int fact) throws IndexOutOfBoundsException {
        needPerson(person);
        needFact(fact);
        remember();
        return now.tellApart(SHOW, setOf(person), at(HOLDING, fact));
    }

    public int round(int fact) throws IndexOutOfBoundsException {
        needFact(fact);
        remember();
        return now.goRound(fact);
    }

    public int writeWorld(int world) throws IndexOutOfBoundsException {
        needWorld(world);
        output.setLength(0);
        if (!isIn(now.known.left, world)) {
            output.append("x ");
        }
        if (world == now.scene.real) {
            output.append('!');
        }
        boolean isFirst = true;
        for (int fact = 0; fact < now.scene.facts.count; fact++) {
            if (isIn(world, fact)) {
                if (!isFirst) {
                    output.append('+');
                }
                now.scene.facts.writeTo(output, fact);
                isFirst = false;
            }
        }
        if (isFirst) {
            output.append('-');
        }
        return output.length();
    }

    public int writeKinds(int person) throws IndexOutOfBoundsException {
        needPerson(person);
        output.setLength(0);
        for (int world = 0; world < MOST_WORLDS; world++) {
            if (now.known.isLowest(person, world)) {
                if (output.length() > 0) {
                    output.append('|');
                }
                writeKind(now.known.likeTo(person, world), world);
            }
        }
        return output.length();
    }

    public int writeQuestion() {
        output.setLength(0);
        now.question.writeTo(output, now.scene, tasks);
        return output.length();
    }

    public int outputByte(int index) {
        return index >= 0 && index < output.length() ? output.charAt(index) : NONE;
    }

    public int undo() {
        if (pastCount == 0) {
            return NONE;
        }
        pastNext = pastNext == 0 ? MOST_CHANGES - 1 : pastNext - 1;
        pastCount--;
        State before = pastAt(pastNext);
        if (before != null) {
            now.copyFrom(before);
        }
        return pastCount;
    }

    public int save() {
        saved.copyFrom(now);
        isSaved = true;
        return now.known.leftCount();
    }

    public int restore() throws IllegalStateException {
        if (!isSaved) {
            throw new IllegalStateException();
        }
        now.copyFrom(saved);
        forgetChanges();
        return now.known.leftCount();
    }

    private void needPerson(int person) {
        if (person < 0 || person >= now.scene.persons.count) {
            throw new IndexOutOfBoundsException();
        }
    }

    private void needFact(int fact) {
        if (fact < 0 || fact >= now.scene.facts.count) {
            throw new IndexOutOfBoundsException();
        }
    }

    private void needWorld(int world) {
        if (world < 0 || world >= 1 << now.scene.facts.count) {
            throw new IndexOutOfBoundsException();
        }
    }

    private void needPersons(int persons) {
        if ((persons & ~allBelow(now.scene.persons.count)) != 0) {
            throw new IllegalArgumentException();
        }
    }

    private void remember() {
        State before = pastAt(pastNext);
        if (before != null) {
            before.copyFrom(now);
        }
        pastNext = pastNext == MOST_CHANGES - 1 ? 0 : pastNext + 1;
        pastCount = Math.min(pastCount + 1, MOST_CHANGES);
    }

    private void forgetChanges() {
        pastCount = 0;
        pastNext = 0;
    }

    private State pastAt(int place) {
        return place >= 0 && place < past.length ? past[place] : null;
    }

    private int foretell(int person, int truth) {
        int reason = now.refusal(person, truth);
        return reason != 0 ? -reason : Integer.bitCount(now.leftAfter(person, truth));
    }

    private int tell(int person, int truth) {
        int reason = now.refusal(person, truth);
        if (reason != 0) {
            return -reason;
        }
        remember();
        now.tell(person, truth);
        return now.known.leftCount();
    }

    private void writeKind(int set, int lowest) {
        for (int world = lowest; world < MOST_WORLDS; world++) {
            if (isIn(set, world)) {
                if (world != lowest) {
                    output.append(' ');
                }
                output.append(world);
            }
        }
    }

    private static int at(int[] row, int index) {
        return index >= 0 && index < row.length ? row[index] : 0;
    }

    private static void put(int[] row, int index, int value) {
        if (index >= 0 && index < row.length) {
            row[index] = value;
        }
    }

    private static void copyRow(int[] from, int[] to) {
        System.arraycopy(from, 0, to, 0, Math.min(from.length, to.length));
    }

    private static boolean isIn(int set, int number) {
        return number >= 0 && number < MOST_WORLDS && (set >>> number & 1) == 1;
    }

    private static int setOf(int number) {
        return number >= 0 && number < MOST_WORLDS ? 1 << number : 0;
    }

    private static int allBelow(int count) {
        // A shift by 32 would be one by 0.
        return count >= MOST_WORLDS ? -1 : (1 << count) - 1;
    }

    private static int lowestOf(int set) {
        for (int number = 0; number < MOST_WORLDS; number++) {
            if (isIn(set, number)) {
                return number;
            }
        }
        return NONE;
    }

    /** The worlds in which the same ones of some facts hold as in a world. */
    private static int agreeing(int world, int facts) {
        int set = -1;
        for (int fact = 0; fact < HOLDING.length; fact++) {
            if ((facts >>> fact & 1) == 1) {
                set &= (world >>> fact & 1) == 1 ? HOLDING[fact] : ~HOLDING[fact];
            }
        }
        return set;
    }

    private static boolean isPrefix(int sort) {
        return sort >= NOT && sort <= COMMONLY;
    }

    private static boolean isJoin(int sort) {
        return sort == AND || sort == OR;
    }

    private static boolean namesPerson(int sort) {
        return sort == KNOWS || sort == MAYBE;
    }

    private static String nodeWord(int sort) {
        switch (sort) {
            case NOT:
                return "not";
            case KNOWS:
                return "knows";
            case MAYBE:
                return "maybe";
            case ALL:
                return "all";
            case COMMONLY:
                return "common";
            case AND:
                return "and";
            default:
                return "or";
        }
    }

    private static String actWord(int sort) {
        switch (sort) {
            case ANNOUNCE:
                return "announce";
            case SAY:
                return "say";
            case WHISPER:
                return "whisper";
            case SHOW:
                return "show";
            default:
                return "round";
        }
    }

    /** The input buffer, its tokens, the one of these that is read now, and the latest error. */
    private static final class Source {
        private final int[] bytes = new int[MOST_BYTES];
        // One token for each byte at most, and the end.
        private final int[] kinds = new int[MOST_BYTES + 1];
        private final int[] starts = new int[MOST_BYTES + 1];
        private final int[] names = new int[MOST_BYTES + 1];
        private int length;
        private int tokens;
        private int token;
        private int kind;
        private int start;
        private int name;
        private int errorCode;
        private int errorPosition = NONE;

        void fill(String text) {
            length = Math.min(text.length(), bytes.length);
            for (int index = 0; index < length; index++) {
                put(bytes, index, text.charAt(index));
            }
        }

        void addNumber(int number) {
            for (int shift = 24; shift >= 0; shift -= 8) {
                put(bytes, length, number >>> shift & 255);
                length++;
            }
        }

        void begin() {
            errorCode = 0;
            errorPosition = NONE;
            tokens = 0;
            int place = 0;
            for (int count = 0; count < MOST_BYTES && place < length; count++) {
                place = scan(place);
            }
            addToken(END, length, 0);
            token = NONE;
            advance();
        }

        /** Empties the buffer; tells whether it was read without an error. */
        boolean finish() {
            length = 0;
            return errorCode == 0;
        }

        /** Finds the token that begins at a place, if one does; answers the place behind it. */
        private int scan(int place) {
            if (byteAt(place) == ' ') {
                return place + 1;
            }
            int letters = 0;
            while (place + letters < length && isLetter(place + letters)) {
                letters++;
            }
            if (letters == 0) {
                addToken(byteAt(place), place, 0);
                return place + 1;
            }
            int wordKind = letters > LONGEST_NAME ? LONG_WORD : kindOfWord(place);
            addToken(wordKind, place, wordKind == NAME ? nameAt(place) : 0);
            return place + letters;
        }

        private int kindOfWord(int place) {
            for (int sort = NOT; sort <= OR; sort++) {
                if (spells(place, nodeWord(sort))) {
                    return NAME + sort;
                }
            }
            return spells(place, "that") ? THAT : NAME;
        }

        private int nameAt(int place) {
            int letters = 0;
            for (int index = 0; index < LONGEST_NAME && isLetter(place + index); index++) {
                letters |= byteAt(place + index) - BEFORE_LETTERS << LETTER_BITS * index;
            }
            return letters;
        }

        private boolean spells(int place, String word) {
            for (int index = 0; index < word.length(); index++) {
                if (byteAt(place + index) != word.charAt(index)) {
                    return false;
                }
            }
            return !isLetter(place + word.length());
        }

        private boolean isLetter(int place) {
            return byteAt(place) >= 'a' && byteAt(place) <= 'z';
        }

        private int byteAt(int place) {
            return place >= 0 && place < length && place < bytes.length ? bytes[place] : NONE;
        }

        private void addToken(int newKind, int place, int letters) {
            put(kinds, tokens, newKind);
            put(starts, tokens, place);
            put(names, tokens, letters);
            tokens++;
        }

        void advance() {
            // The end is not left any more.
            token = Math.min(token + 1, tokens - 1);
            kind = at(kinds, token);
            start = at(starts, token);
            name = at(names, token);
        }

        void fail(int code, int position) {
            // Only the first error counts.
            if (errorCode == 0) {
                errorCode = code;
                errorPosition = position;
            }
        }

        boolean hasError() {
            return errorCode != 0;
        }

        boolean isWord(String word) {
            return spells(start, word);
        }

        boolean isName() {
            return kind == NAME;
        }

        void takeWord(String word) {
            if (isWord(word)) {
                advance();
            } else {
                fail(MISPLACED, start);
            }
        }

        boolean take(int wanted) {
            if (kind != wanted) {
                fail(MISPLACED, start);
                return false;
            }
            advance();
            return true;
        }

        void needEnd() {
            if (kind != END) {
                fail(MISPLACED, start);
            }
        }

        void takeNew(Names told) {
            if (!isName()) {
                fail(MISPLACED, start);
            } else if (told.find(name) != NONE) {
                fail(MISNAMED, start);
            } else if (told.isFull()) {
                fail(TOO_MANY, start);
            } else {
                told.add(name);
                advance();
            }
        }

        /** The number of the name that stands here; NONE with an error. */
        int known(Names told) {
            if (!isName()) {
                fail(MISPLACED, start);
                return NONE;
            }
            int number = told.find(name);
            if (number == NONE) {
                fail(MISNAMED, start);
            }
            return number;
        }

        int takeKnown(Names told) {
            int number = known(told);
            if (number != NONE) {
                advance();
            }
            return number;
        }

        /** Takes names as long as names stand here, each one at most once. */
        int takeSet(Names told) {
            int set = 0;
            for (int count = 0; count <= told.count && isName(); count++) {
                int number = known(told);
                if (isIn(set, number)) {
                    fail(MISNAMED, start);
                }
                if (hasError()) {
                    return set;
                }
                set |= setOf(number);
                advance();
            }
            return set;
        }
    }

    /** The names of all facts, or of all persons, by number. */
    private static final class Names {
        private final int[] names;
        private int count;

        Names(int most) {
            names = new int[Math.max(most, 0)];
        }

        boolean isFull() {
            return count >= names.length;
        }

        void add(int name) {
            put(names, count, name);
            count++;
        }

        int find(int name) {
            for (int number = 0; number < count && number < names.length; number++) {
                if (names[number] == name) {
                    return number;
                }
            }
            return NONE;
        }

        int letterOf(int number, int index) {
            if (index < 0 || index >= LONGEST_NAME) {
                return NONE;
            }
            int letter = at(names, number) >>> LETTER_BITS * index & LETTER_MASK;
            return letter == 0 ? NONE : letter + BEFORE_LETTERS;
        }

        void writeTo(StringBuilder out, int number) {
            for (int index = 0; index < LONGEST_NAME && letterOf(number, index) != NONE; index++) {
                out.append((char) letterOf(number, index));
            }
        }
    }

    /** What a description tells; never changed after it was read, so that states can share it. */
    private static final class Scene {
        private final Names facts = new Names(MOST_FACTS);
        private final Names persons = new Names(MOST_PERSONS);
        private final int[] seen = new int[MOST_PERSONS];
        private int laws;
        private int first;
        private int real = NONE;
    }

    /** Nodes in the order in which they are worked out: each one behind what it is about. */
    private static final class Formula {
        private final int[] sorts = new int[MOST_NODES];
        private final int[] numbers = new int[MOST_NODES];
        // A number for each node or for each open part, while something is worked out.
        private final int[] values = new int[MOST_NODES];
        private int count;

        void clear() {
            count = 0;
        }

        void add(int sort, int number) {
            put(sorts, count, sort);
            put(numbers, count, number);
            count = Math.min(count + 1, MOST_NODES);
        }

        void copyFrom(Formula other) {
            copyRow(other.sorts, sorts);
            copyRow(other.numbers, numbers);
            count = other.count;
        }

        int truthIn(Knowledge known) {
            int top = NONE;
            for (int node = 0; node < count; node++) {
                int sort = at(sorts, node);
                if (sort == FACT) {
                    top++;
                    put(values, top, known.left & at(HOLDING, at(numbers, node)));
                } else if (isJoin(sort)) {
                    top--;
                    int one = at(values, top);
                    int other = at(values, top + 1);
                    put(values, top, sort == AND ? one & other : one | other);
                } else {
                    put(values, top, known.prefixed(sort, at(numbers, node), at(values, top)));
                }
            }
            return at(values, 0);
        }

        int depth() {
            int top = NONE;
            for (int node = 0; node < count; node++) {
                int sort = at(sorts, node);
                if (sort == FACT) {
                    top++;
                    put(values, top, 0);
                } else if (isJoin(sort)) {
                    top--;
                    put(values, top, Math.max(at(values, top), at(values, top + 1)));
                } else if (sort != NOT) {
                    put(values, top, at(values, top) + 1);
                }
            }
            return at(values, 0);
        }

        void writeTo(StringBuilder out, Scene scene, int[] tasks) {
            findBegins();
            put(tasks, 0, count - 1);
            int height = 1;
            for (int done = 0; done < 4 * MOST_NODES && height > 0; done++) {
                height--;
                int task = at(tasks, height);
                if (task < 0) {
                    out.append(task == WRITE_AND ? " and " : task == WRITE_OR ? " or " : ")");
                } else if (at(sorts, task) == FACT) {
                    scene.facts.writeTo(out, at(numbers, task));
                } else if (isJoin(at(sorts, task))) {
                    out.append('(');
                    put(tasks, height, WRITE_CLOSE);
                    put(tasks, height + 1, task - 1);
                    put(tasks, height + 2, at(sorts, task) == AND ? WRITE_AND : WRITE_OR);
                    put(tasks, height + 3, at(values, task - 1) - 1);
                    height += 4;
                } else {
                    writePrefix(out, scene, task);
                    put(tasks, height, task - 1);
                    height++;
                }
            }
        }

        private void writePrefix(StringBuilder out, Scene scene, int node) {
            out.append(nodeWord(at(sorts, node)));
            out.append(' ');
            if (namesPerson(at(sorts, node))) {
                scene.persons.writeTo(out, at(numbers, node));
                out.append(' ');
            }
        }

        /** The left part of a join ends where its right part begins, so of each node its first one is asked. */
        private void findBegins() {
            for (int node = 0; node < count; node++) {
                int begin = node;
                if (isPrefix(at(sorts, node))) {
                    begin = at(values, node - 1);
                } else if (isJoin(at(sorts, node))) {
                    begin = at(values, at(values, node - 1) - 1);
                }
                put(values, node, begin);
            }
        }
    }

    /** Reads a formula; what waits for its end stands on a stack of its own, so that no call goes deeper. */
    private static final class FormulaReader {
        private final Source source;
        private final int[] waitingSorts = new int[MOST_NODES + MOST_OPEN];
        private final int[] waitingNumbers = new int[MOST_NODES + MOST_OPEN];
        private int waiting;
        private int open;
        private int nodes;

        FormulaReader(Source source) {
            this.source = source;
        }

        void read(Scene scene, boolean isLaw, Formula formula) {
            waiting = 0;
            open = 0;
            nodes = 0;
            formula.clear();
            boolean needsItem = true;
            boolean goesOn = !source.hasError();
            for (int count = 0; count <= MOST_BYTES && goesOn; count++) {
                if (needsItem) {
                    needsItem = readItem(scene, isLaw, formula);
                    goesOn = !source.hasError();
                } else if (isJoin(source.kind - NAME)) {
                    readJoin(formula);
                    needsItem = true;
                    goesOn = !source.hasError();
                } else if (open > 0) {
                    readClose(formula);
                    goesOn = !source.hasError();
                } else {
                    goesOn = false;
                }
            }
            release(OR, formula);
        }

        /** Tells whether the item that was begun needs more. */
        private boolean readItem(Scene scene, boolean isLaw, Formula formula) {
            int sort = source.kind - NAME;
            if (source.kind == '(') {
                readOpen();
                return true;
            }
            if (isPrefix(sort) && (sort == NOT || !isLaw)) {
                if (takeNode()) {
                    hold(sort, namesPerson(sort) ? source.takeKnown(scene.persons) : 0);
                }
                return true;
            }
            int fact = source.known(scene.facts);
            if (fact != NONE && takeNode()) {
                formula.add(FACT, fact);
            }
            return false;
        }

        private void readOpen() {
            if (open >= MOST_OPEN) {
                source.fail(MISPLACED, source.start);
            } else {
                open++;
                hold(PARENTHESIS, 0);
                source.advance();
            }
        }

        private void readJoin(Formula formula) {
            int sort = source.kind - NAME;
            if (takeNode()) {
                release(sort, formula);
                hold(sort, 0);
            }
        }

        private void readClose(Formula formula) {
            if (source.take(')')) {
                release(OR, formula);
                waiting--;
                open--;
            }
        }

        private boolean takeNode() {
            if (nodes >= MOST_NODES) {
                source.fail(TOO_MANY, source.start);
                return false;
            }
            nodes++;
            source.advance();
            return true;
        }

        private void hold(int sort, int number) {
            put(waitingSorts, waiting, sort);
            put(waitingNumbers, waiting, number);
            waiting++;
        }

        /** Ends what waits and binds no less than a sort does, back to the latest parenthesis. */
        private void release(int sort, Formula formula) {
            while (waiting > 0 && at(waitingSorts, waiting - 1) <= sort) {
                waiting--;
                formula.add(at(waitingSorts, waiting), at(waitingNumbers, waiting));
            }
        }
    }

    /** Reads a description into a scene of its own, so that an error leaves the old one as it is. */
    private static final class DescriptionReader {
        private final Source source;
        private final FormulaReader formulaReader;
        private final Formula law;
        private final Knowledge lawful;

        DescriptionReader(Source source, FormulaReader formulaReader, Formula law, Knowledge lawful) {
            this.source = source;
            this.formulaReader = formulaReader;
            this.law = law;
            this.lawful = lawful;
        }

        Scene read() {
            Scene scene = new Scene();
            source.begin();
            readFacts(scene);
            for (int count = 0; count <= MOST_BYTES && !isAtEnd(scene); count++) {
                if (!source.take(';')) {
                    return scene;
                }
                boolean hasPersons = scene.persons.count > 0;
                if (!hasPersons && source.isWord("law")) {
                    readLaw(scene);
                } else if (source.isWord("person")) {
                    readPerson(scene);
                } else if (hasPersons && source.isWord("real")) {
                    readReal(scene);
                } else {
                    source.fail(MISPLACED, source.start);
                }
            }
            if (scene.real == NONE) {
                scene.real = lowestOf(scene.first);
            }
            return scene;
        }

        private boolean isAtEnd(Scene scene) {
            return source.hasError() || source.kind == END && scene.persons.count > 0;
        }

        private void readFacts(Scene scene) {
            source.takeWord("facts");
            source.takeNew(scene.facts);
            for (int count = 0; count <= MOST_FACTS && source.isName() && !source.hasError(); count++) {
                source.takeNew(scene.facts);
            }
            scene.first = allBelow(1 << scene.facts.count);
        }

        private void readLaw(Scene scene) {
            int position = source.start;
            if (scene.laws >= MOST_LAWS) {
                source.fail(TOO_MANY, source.start);
                return;
            }
            source.advance();
            formulaReader.read(scene, true, law);
            if (source.hasError()) {
                return;
            }
            lawful.left = scene.first;
            scene.first = law.truthIn(lawful);
            scene.laws++;
            if (scene.first == 0) {
                source.fail(NO_WORLD, position);
            }
        }

        private void readPerson(Scene scene) {
            int person = scene.persons.count;
            if (scene.persons.isFull()) {
                source.fail(TOO_MANY, source.start);
                return;
            }
            source.advance();
            source.takeNew(scene.persons);
            if (!source.hasError()) {
                put(scene.seen, person, source.takeSet(scene.facts));
            }
        }

        private void readReal(Scene scene) {
            int position = source.start;
            source.advance();
            // A set of facts as a number is the number of the world in which just these hold.
            scene.real = source.takeSet(scene.facts);
            if (!source.hasError() && !isIn(scene.first, scene.real)) {
                source.fail(NO_WORLD, position);
            }
            source.needEnd();
        }
    }

    /** One statement of orders. */
    private static final class Order {
        private final Formula formula = new Formula();
        private int sort;
        private int person;
        private int persons;
        private int fact;
    }

    /** Reads all orders ahead of doing any, since an error in the last one forbids the first one, too. */
    private static final class OrderReader {
        private final Source source;
        private final FormulaReader formulaReader;
        private final Order[] orders = new Order[MOST_ORDERS];
        private int count;

        OrderReader(Source source, FormulaReader formulaReader) {
            this.source = source;
            this.formulaReader = formulaReader;
            for (int index = 0; index < orders.length; index++) {
                orders[index] = new Order();
            }
        }

        Order orderAt(int index) {
            return index >= 0 && index < count && index < orders.length ? orders[index] : null;
        }

        void read(Scene scene) {
            count = 0;
            source.begin();
            for (int done = 0; done <= MOST_ORDERS && source.kind != END && !source.hasError(); done++) {
                Order order = openOrder();
                if (order != null) {
                    readParts(scene, order);
                    source.take(';');
                }
            }
        }

        /** The order whose first word stands here; null with an error. */
        private Order openOrder() {
            int sort = ANNOUNCE;
            while (sort <= ROUND && !source.isWord(actWord(sort))) {
                sort++;
            }
            if (sort > ROUND) {
                source.fail(MISPLACED, source.start);
                return null;
            }
            if (count >= MOST_ORDERS) {
                source.fail(TOO_MANY, source.start);
                return null;
            }
            source.advance();
            count++;
            Order order = orderAt(count - 1);
            if (order != null) {
                order.sort = sort;
            }
            return order;
        }

        private void readParts(Scene scene, Order order) {
            order.person = NONE;
            if (order.sort == WHISPER) {
                readHearers(scene, order);
            } else if (order.sort == SAY || order.sort == SHOW) {
                order.person = source.takeKnown(scene.persons);
                order.persons = setOf(order.person);
            }
            if (source.hasError()) {
                return;
            }
            if (order.sort == SHOW || order.sort == ROUND) {
                order.fact = source.takeKnown(scene.facts);
            } else {
                formulaReader.read(scene, false, order.formula);
            }
        }

        private void readHearers(Scene scene, Order order) {
            if (!source.isName()) {
                source.fail(MISPLACED, source.start);
                return;
            }
            order.persons = source.takeSet(scene.persons);
            source.take(THAT);
        }
    }

    /** Which worlds are left, and which of them are alike for whom. */
    private static final class Knowledge {
        // A set of worlds for each person and world; those that were ruled out stay in it and are masked by left.
        private final int[] alikeSets = new int[MOST_PERSONS * MOST_WORLDS];
        private int left;
        private int persons;

        void begin(Scene scene) {
            left = scene.first;
            persons = scene.persons.count;
            for (int person = 0; person < persons; person++) {
                for (int world = 0; world < MOST_WORLDS; world++) {
                    put(alikeSets, person * MOST_WORLDS + world, agreeing(world, at(scene.seen, person)));
                }
            }
        }

        void copyFrom(Knowledge other) {
            copyRow(other.alikeSets, alikeSets);
            left = other.left;
            persons = other.persons;
        }

        int leftCount() {
            return Integer.bitCount(left);
        }

        int likeTo(int person, int world) {
            int place = person * MOST_WORLDS + world;
            if (world < 0 || world >= MOST_WORLDS || place < 0 || place >= alikeSets.length) {
                return 0;
            }
            return (left >>> world & 1) == 1 ? alikeSets[place] & left : 0;
        }

        /** Of each set of worlds that are alike for a person just one world is the lowest. */
        boolean isLowest(int person, int world) {
            return isIn(left, world) && (likeTo(person, world) & allBelow(world)) == 0;
        }

        int sumOfAlike(int person) {
            int sum = 0;
            for (int world = 0; world < MOST_WORLDS; world++) {
                sum += Integer.bitCount(likeTo(person, world));
            }
            return sum;
        }

        /** The worlds that are alike to one of a set for some person. */
        private int neighbours(int set) {
            int found = 0;
            for (int world = 0; world < MOST_WORLDS; world++) {
                for (int person = 0; person < persons && (set >>> world & 1) == 1; person++) {
                    found |= likeTo(person, world);
                }
            }
            return found;
        }

        int reachedFrom(int set) {
            int reached = left & set;
            int edge = reached;
            for (int step = 0; step < MOST_WORLDS && edge != 0; step++) {
                edge = neighbours(edge) & ~reached;
                reached |= edge;
            }
            return reached;
        }

        int stepsBetween(int world, int other) {
            int reached = left & setOf(world);
            for (int step = 0; step < MOST_WORLDS; step++) {
                if (isIn(reached, other)) {
                    return step;
                }
                reached |= neighbours(reached);
            }
            return NONE;
        }

        int knowing(int person, int set) {
            int found = 0;
            for (int world = 0; world < MOST_WORLDS; world++) {
                if (isIn(left, world) && (likeTo(person, world) & ~set) == 0) {
                    found |= setOf(world);
                }
            }
            return found;
        }

        int knownToAll(int set) {
            int found = left;
            for (int person = 0; person < persons; person++) {
                found &= knowing(person, set);
            }
            return found;
        }

        int prefixed(int sort, int person, int set) {
            switch (sort) {
                case NOT:
                    return left & ~set;
                case KNOWS:
                    return knowing(person, set);
                case MAYBE:
                    // Maybe is that it is not known that not.
                    return left & ~knowing(person, ~set);
                case ALL:
                    return knownToAll(set);
                default:
                    // What is reached from a world is all that it is reached from.
                    return left & ~reachedFrom(~set);
            }
        }

        int knowersOf(int world, int set) {
            int found = 0;
            for (int person = 0; person < persons; person++) {
                if ((likeTo(person, world) & ~set) == 0) {
                    found |= setOf(person);
                }
            }
            return found;
        }

        int decidersOf(int world, int set) {
            return knowersOf(world, set) | knowersOf(world, ~set);
        }

        /** The worlds in which these persons and no others know whether a set has the world. */
        int deciding(int deciders, int set) {
            int found = 0;
            for (int world = 0; world < MOST_WORLDS; world++) {
                if (isIn(left, world) && decidersOf(world, set) == deciders) {
                    found |= setOf(world);
                }
            }
            return found;
        }

        /** Counts the pairs that become alike no longer for one of the hearers. */
        int tellApart(int hearers, int truth) {
            int lost = 0;
            for (int person = 0; person < persons; person++) {
                for (int world = 0; world < MOST_WORLDS && isIn(hearers, person); world++) {
                    int place = person * MOST_WORLDS + world;
                    int before = likeTo(person, world);
                    put(alikeSets, place, at(alikeSets, place) & (isIn(truth, world) ? truth : ~truth));
                    lost += Integer.bitCount(before & ~likeTo(person, world));
                }
            }
            // Each pair was met from both of its worlds.
            return lost / 2;
        }
    }

    /** The latest acts and the accounts of all of them. */
    private static final class Log {
        private final int[] sorts = new int[MOST_ACTS];
        private final int[] persons = new int[MOST_ACTS];
        private final int[] ruledOut = new int[MOST_ACTS];
        private final int[] accounts = new int[ACCOUNTS];
        private int count;

        void clear() {
            count = 0;
            for (int what = 0; what < ACCOUNTS; what++) {
                put(accounts, what, 0);
            }
        }

        void copyFrom(Log other) {
            copyRow(other.sorts, sorts);
            copyRow(other.persons, persons);
            copyRow(other.ruledOut, ruledOut);
            copyRow(other.accounts, accounts);
            count = other.count;
        }

        void add(int sort, int who, int gone, int pairs) {
            pushAhead(sorts, sort);
            pushAhead(persons, who);
            pushAhead(ruledOut, gone);
            count = Math.min(count + 1, MOST_ACTS);
            put(accounts, sort, at(accounts, sort) + 1);
            put(accounts, WORLDS_ACCOUNT, at(accounts, WORLDS_ACCOUNT) + Integer.bitCount(gone));
            put(accounts, PAIRS_ACCOUNT, at(accounts, PAIRS_ACCOUNT) + pairs);
        }

        int numberOf(int index, int what) {
            if (index < 0 || index >= count) {
                return NONE;
            }
            return at(what == 0 ? sorts : what == 1 ? persons : ruledOut, index);
        }

        private static void pushAhead(int[] row, int number) {
            for (int index = row.length - 1; index > 0; index--) {
                row[index] = row[index - 1];
            }
            put(row, 0, number);
        }
    }

    /** All that a change may change and that is saved. */
    private static final class State {
        private final Knowledge known = new Knowledge();
        private final Formula question = new Formula();
        private final Log log = new Log();
        private Scene scene;

        State(Scene scene) {
            this.scene = scene;
        }

        void begin(Scene told) {
            scene = told;
            known.begin(told);
            question.clear();
            question.add(FACT, 0);
            log.clear();
        }

        void copyFrom(State other) {
            scene = other.scene;
            known.copyFrom(other.known);
            question.copyFrom(other.question);
            log.copyFrom(other.log);
        }

        int questionTruth() {
            return question.truthIn(known);
        }

        /** Why telling is refused, by a person or by NONE, who announces; 0 if it is not. */
        int refusal(int person, int truth) {
            if (!isIn(truth, scene.real)) {
                return LIE;
            }
            return isIn(leftAfter(person, truth), scene.real) ? 0 : NOT_KNOWN;
        }

        int leftAfter(int person, int truth) {
            return person == NONE ? truth : known.knowing(person, truth);
        }

        void tell(int person, int truth) {
            leave(person == NONE ? ANNOUNCE : SAY, setOf(person), leftAfter(person, truth));
        }

        int tellApart(int sort, int hearers, int truth) {
            int pairs = known.tellApart(hearers, truth);
            log.add(sort, hearers, 0, pairs);
            return pairs;
        }

        int goRound(int fact) {
            int holding = at(HOLDING, fact);
            int deciders = known.decidersOf(scene.real, holding);
            leave(ROUND, 0, known.deciding(deciders, holding));
            return deciders;
        }

        boolean carryOut(Order order) {
            if (order == null) {
                return false;
            }
            if (order.sort == ROUND) {
                goRound(order.fact);
                return true;
            }
            if (order.sort == SHOW) {
                tellApart(SHOW, order.persons, at(HOLDING, order.fact));
                return true;
            }
            int truth = order.formula.truthIn(known);
            if (order.sort == WHISPER) {
                tellApart(WHISPER, order.persons, truth);
                return true;
            }
            boolean isDone = refusal(order.person, truth) == 0;
            if (isDone) {
                tell(order.person, truth);
            }
            return isDone;
        }

        private void leave(int sort, int speakers, int stay) {
            int gone = known.left & ~stay;
            known.left = stay;
            log.add(sort, speakers, gone, 0);
        }
    }
}
