import java.util.Arrays;
import java.util.NoSuchElementException;

/** A logic engine that remembers goals; ../shared/DOC.md says what each call answers. */
public final class TabledGoals {
    public static final int NONE = -1;

    private static final int TAPE_BYTES = 400;
    private static final int MOST_PREDICATES = 10;
    private static final int MOST_CONSTANTS = 8;
    private static final int MOST_CLAUSES = 60;
    private static final int MOST_LITERALS = 6;
    private static final int MOST_VARIABLES = 3;
    private static final int MOST_LETTERS = 8;

    /** An atom is a bit, 8 times its first constant and its second one, in a long of its predicate. */
    private static final int ATOMS_EACH = 64;
    private static final int MOST_ATOMS = MOST_PREDICATES * ATOMS_EACH;
    private static final long ROW = 0xFFL;
    private static final long COLUMN = 0x0101010101010101L;
    private static final long DIAGONAL = 0x8040201008040201L;

    /** A goal is a key: three digits, its predicate, and each term and 2. */
    private static final int GOAL_KEYS = 1000;
    /** Of a predicate: 64 goals without variables, 8 and 8 with one, 2 with variables alone. */
    private static final int MOST_TABLES = MOST_PREDICATES * 82;
    /** Far above all calls of all tables, and all tables, together. */
    private static final int MOST_STEPS = 1000000;

    private static final int HEAD = -1;
    private static final int PART_PREDICATE = 0;
    private static final int PART_ONE = 1;
    private static final int PART_TWO = 2;
    private static final int PART_NOT = 3;
    private static final int LITERAL_PARTS = 4;
    private static final int CLAUSE_PARTS = (MOST_LITERALS + 1) * LITERAL_PARTS;

    private static final int FALSE = 0;
    private static final int UNDEFINED = 1;
    private static final int TRUE = 2;

    private static final int PLAINLY = 1;
    private static final int BY_NOT = 2;
    private static final int BOTH_WAYS = 3;

    private static final int CANNOT_STAND = 1;
    private static final int LONG_NAME = 2;
    private static final int TOO_MANY = 3;
    private static final int OTHER_TERMS = 4;
    private static final int NOT_SAFE = 5;
    private static final int FAULT_LESS = 10;

    private static final int REFUSED_MISSING = 0;
    private static final int REFUSED_ARGUMENT = 1;
    private static final int REFUSED_STATE = 2;

    private final int[] tape = new int[TAPE_BYTES];
    private int tapeBytes;
    private int faultPlace = NONE;
    private final int[] refused = new int[REFUSED_STATE + 1];
    /** A text is read into the spare one, so that a fault leaves all as it was. */
    private Program program = new Program();
    private Program spare = new Program();
    private final Model model = new Model(program);
    private final Weigher weigher = new Weigher(program, model);
    private final Tables tables = new Tables(program, model);

    public TabledGoals() {
    }

    public int feed(int a, int b, int c, int d, int e) {
        if (tapeBytes + 20 > TAPE_BYTES) {
            return NONE;
        }
        putBytes(a);
        putBytes(b);
        putBytes(c);
        putBytes(d);
        putBytes(e);
        return tapeBytes;
    }

    private void putBytes(int number) {
        for (int shift = 24; shift >= 0 && tapeBytes < TAPE_BYTES; shift -= 8) {
            tape[tapeBytes] = (number >> shift) & 255;
            tapeBytes++;
        }
    }

    public int text(int n) throws IllegalArgumentException {
        if (n < 0 || n > tapeBytes) {
            refuseArgument();
        }
        Reader reader = new Reader(tape, n, spare);
        boolean right = reader.readText();
        tapeBytes = 0;
        faultPlace = reader.place;
        if (!right) {
            return reader.fault - FAULT_LESS;
        }
        Program old = program;
        program = spare;
        spare = old;
        model.known = false;
        tables.startAnew();
        return program.clauses;
    }

    public int fault() {
        return faultPlace;
    }

    public int assume(int predicate, int one, int two)
            throws NoSuchElementException, IllegalArgumentException, IllegalStateException {
        needAtom(predicate, one, two);
        if (program.factAt(predicate, one, two) != NONE) {
            return NONE;
        }
        if (program.clauses >= MOST_CLAUSES) {
            refuseState();
        }
        program.addFact(predicate, one, two);
        model.known = false;
        return tables.spoil(predicate, likes(one, two));
    }

    public int retract(int predicate, int one, int two)
            throws NoSuchElementException, IllegalArgumentException {
        needAtom(predicate, one, two);
        int at = program.factAt(predicate, one, two);
        if (at == NONE) {
            return NONE;
        }
        program.removeClause(at);
        model.known = false;
        return tables.spoil(predicate, likes(one, two));
    }

    public int ask(int predicate, int one, int two)
            throws NoSuchElementException, IllegalArgumentException {
        needGoal(predicate, one, two);
        model.settle(program);
        return tables.askFor(keyOf(predicate, one, two), program);
    }

    public int abolish() {
        int gone = tables.count;
        tables.clear();
        return gone;
    }

    public int told(int what) throws IllegalArgumentException {
        needWhat(what, 11);
        if (what >= 8 && what <= 10) {
            model.settle(program);
        }
        switch (what) {
            case 0: return program.predicates;
            case 1: return program.constants;
            case 2: return program.clauses;
            case 3: return program.facts();
            case 4: return tables.count;
            case 5: return tables.freshOnes();
            case 6: return tables.madeInAll;
            case 7: return tables.hitsInAll;
            case 8: return model.stages;
            case 9: return model.trueAtoms();
            case 10: return model.undefinedAtoms();
            default: return tapeBytes;
        }
    }

    public int predicate(int predicate, int what)
            throws NoSuchElementException, IllegalArgumentException {
        needPredicate(predicate);
        needWhat(what, 5);
        switch (what) {
            case 0: return program.terms[predicate];
            case 1: return program.clausesOf(predicate);
            case 2: return program.stratumOf(predicate);
            case 3: return program.lengths[predicate];
            default: break;
        }
        model.settle(program);
        return Long.bitCount(what == 4 ? model.truth[predicate] : model.undefinedOf(predicate));
    }

    public int nameAt(int kind, int k, int i)
            throws NoSuchElementException, IllegalArgumentException {
        needWhat(kind, 1);
        if (kind == 0) {
            needPredicate(k);
        } else {
            needConstant(k);
        }
        int slot = kind == 0 ? k : MOST_PREDICATES + k;
        needIndex(i, program.lengths[slot]);
        return program.letters[slot * MOST_LETTERS + i];
    }

    public int clause(int clause, int literal, int what)
            throws NoSuchElementException, IllegalArgumentException {
        needIndex(clause, program.clauses);
        if (literal != NONE) {
            needIndex(literal, program.sizes[clause]);
        }
        needWhat(what, 3);
        return program.part(clause, literal, what);
    }

    public int literals(int clause) throws NoSuchElementException {
        needIndex(clause, program.clauses);
        return program.sizes[clause];
    }

    public int value(int predicate, int one, int two)
            throws NoSuchElementException, IllegalArgumentException {
        needAtom(predicate, one, two);
        model.settle(program);
        return model.worth(predicate, likes(one, two));
    }

    public int stage(int predicate, int one, int two)
            throws NoSuchElementException, IllegalArgumentException {
        needAtom(predicate, one, two);
        model.settle(program);
        return model.stageOf[predicate * ATOMS_EACH + one * MOST_CONSTANTS + two];
    }

    public int find(int predicate, int one, int two)
            throws NoSuchElementException, IllegalArgumentException {
        needGoal(predicate, one, two);
        return tables.numberOf[keyOf(predicate, one, two)];
    }

    public int table(int table, int what)
            throws NoSuchElementException, IllegalArgumentException {
        needIndex(table, tables.count);
        needWhat(what, 12);
        if (what == 7) {
            return tables.leaderOf(table);
        }
        if (what == 12) {
            return tables.callersOf(table);
        }
        Table asked = tables.at(table);
        return asked == null ? NONE : asked.tell(what);
    }

    public int calls(int table, int i, int what)
            throws NoSuchElementException, IllegalArgumentException {
        needIndex(table, tables.count);
        Table asked = tables.at(table);
        needIndex(i, asked == null ? 0 : asked.callCount);
        needWhat(what, 1);
        if (asked == null) {
            return NONE;
        }
        return what == 0 ? tables.numberOf[asked.calledKey(i)] : asked.calledWays(i);
    }

    public int answer(int table, int i, int what)
            throws NoSuchElementException, IllegalArgumentException {
        needIndex(table, tables.count);
        Table asked = tables.at(table);
        long answers = asked == null ? 0 : asked.answers();
        needIndex(i, Long.bitCount(answers));
        needWhat(what, 2);
        int atom = placeOfBit(answers, i);
        if (what == 0) {
            return atom / MOST_CONSTANTS;
        }
        if (what == 1) {
            return atom % MOST_CONSTANTS;
        }
        return asked != null && (asked.truths >>> atom & 1) == 1 ? TRUE : UNDEFINED;
    }

    public int completed(int k) {
        return k < 0 || k >= tables.completedCount ? NONE : tables.completedOnes[k];
    }

    public int condition(int predicate, int one, int two, int j, int l)
            throws NoSuchElementException, IllegalArgumentException {
        needAtom(predicate, one, two);
        model.settle(program);
        if (model.worth(predicate, likes(one, two)) != UNDEFINED) {
            refuseMissing();
        }
        weigher.weigh(program, keyOf(predicate, one, two), j);
        if (j == NONE) {
            return weigher.count;
        }
        needIndex(j, weigher.count);
        if (l == NONE) {
            return weigher.delayedCount;
        }
        if (l == -2) {
            return weigher.foundClause;
        }
        needIndex(l, weigher.delayedCount);
        return weigher.delayed[l];
    }

    public int reach(int predicate, int one, int two)
            throws NoSuchElementException, IllegalArgumentException {
        needGoal(predicate, one, two);
        model.settle(program);
        return tables.reachedFrom(keyOf(predicate, one, two), program);
    }

    public long print() {
        return tables.sum();
    }

    public int status(int what) {
        return what < REFUSED_MISSING || what > REFUSED_STATE ? NONE : refused[what];
    }

    private void refuseMissing() {
        refused[REFUSED_MISSING]++;
        throw new NoSuchElementException("there is none of that number");
    }

    private void refuseArgument() {
        refused[REFUSED_ARGUMENT]++;
        throw new IllegalArgumentException("a number that has no meaning here");
    }

    private void refuseState() {
        refused[REFUSED_STATE]++;
        throw new IllegalStateException("no clause more has room");
    }

    private void needIndex(int index, int count) {
        if (index < 0 || index >= count) {
            refuseMissing();
        }
    }

    private void needWhat(int what, int most) {
        if (what < 0 || what > most) {
            refuseArgument();
        }
    }

    private void needPredicate(int predicate) {
        needIndex(predicate, program.predicates);
    }

    private void needConstant(int constant) {
        needIndex(constant, program.constants);
    }

    private void needAtom(int predicate, int one, int two) {
        needPredicate(predicate);
        int terms = program.terms[predicate];
        if (terms > 0) {
            needConstant(one);
        }
        if (terms > 1) {
            needConstant(two);
        }
        needNoMoreTerms(terms, one, two);
    }

    private void needGoal(int predicate, int one, int two) {
        needPredicate(predicate);
        int terms = program.terms[predicate];
        if (terms > 0 && one >= program.constants || terms > 1 && two >= program.constants) {
            refuseMissing();
        }
        needNoMoreTerms(terms, one, two);
        if (one < -2 || two < -2) {
            refuseArgument();
        }
    }

    private void needNoMoreTerms(int terms, int one, int two) {
        if (terms < 1 && one != 0 || terms < 2 && two != 0) {
            refuseArgument();
        }
    }

    /** The atoms like a goal's terms; terms that a predicate has not are 0, so they fit as a constant. */
    private static long likes(int one, int two) {
        long like = -1L;
        if (one >= 0) {
            like &= ROW << (MOST_CONSTANTS * one);
        }
        if (two >= 0) {
            like &= COLUMN << two;
        }
        if (one < 0 && one == two) {
            like &= DIAGONAL;
        }
        return like;
    }

    /** The key that all variants of a goal share. */
    private static int keyOf(int predicate, int one, int two) {
        int first = one < 0 ? -1 : one;
        int second = two;
        if (two < 0) {
            second = one < 0 && one != two ? -2 : -1;
        }
        return predicate * 100 + (first + 2) * 10 + second + 2;
    }

    private static int keyPredicate(int key) {
        return key / 100;
    }

    private static int keyOne(int key) {
        return key / 10 % 10 - 2;
    }

    private static int keyTwo(int key) {
        return key % 10 - 2;
    }

    /** Which bit the i-th one of a set is. */
    private static int placeOfBit(long set, int i) {
        long left = set;
        for (int n = 0; n < i && left != 0; n++) {
            left &= left - 1;
        }
        return left == 0 ? 0 : lowestBit(left);
    }

    private static int lowestBit(long set) {
        return Long.bitCount((set & -set) - 1);
    }

    /** What a text told: the names and the clauses. */
    private static final class Program {
        private static final int NAMES = MOST_PREDICATES + MOST_CONSTANTS;

        int predicates;
        int constants;
        int clauses;
        final int[] terms = new int[MOST_PREDICATES];
        /** Names of predicates, then those of constants from slot MOST_PREDICATES on. */
        final int[] lengths = new int[NAMES];
        final int[] letters = new int[NAMES * MOST_LETTERS];
        final int[] sizes = new int[MOST_CLAUSES];
        /** Of each clause a bit for each predicate of a plain literal. */
        final int[] needs = new int[MOST_CLAUSES];
        final int[] parts = new int[MOST_CLAUSES * CLAUSE_PARTS];

        void clear() {
            predicates = 0;
            constants = 0;
            clauses = 0;
        }

        int part(int clause, int literal, int what) {
            int at = clause * CLAUSE_PARTS + (literal - HEAD) * LITERAL_PARTS + what;
            return at < 0 || at >= parts.length ? 0 : parts[at];
        }

        void putPart(int clause, int literal, int what, int number) {
            int at = clause * CLAUSE_PARTS + (literal - HEAD) * LITERAL_PARTS + what;
            if (at >= 0 && at < parts.length) {
                parts[at] = number;
            }
        }

        void putHead(int clause, int predicate) {
            putAtom(clause, HEAD, predicate, 0);
            if (clause >= 0 && clause < MOST_CLAUSES) {
                sizes[clause] = 0;
                needs[clause] = 0;
            }
        }

        void putLiteral(int clause, int literal, int predicate, int not) {
            putAtom(clause, literal, predicate, not);
            if (clause >= 0 && clause < MOST_CLAUSES) {
                sizes[clause] = literal + 1;
                needs[clause] |= not == 0 ? 1 << predicate : 0;
            }
        }

        private void putAtom(int clause, int literal, int predicate, int not) {
            putPart(clause, literal, PART_PREDICATE, predicate);
            putPart(clause, literal, PART_ONE, 0);
            putPart(clause, literal, PART_TWO, 0);
            putPart(clause, literal, PART_NOT, not);
        }

        void addFact(int predicate, int one, int two) {
            if (clauses < MOST_CLAUSES) {
                putHead(clauses, predicate);
                putPart(clauses, HEAD, PART_ONE, one);
                putPart(clauses, HEAD, PART_TWO, two);
                clauses++;
            }
        }

        int factAt(int predicate, int one, int two) {
            for (int c = 0; c < clauses; c++) {
                if (sizes[c] == 0 && part(c, HEAD, PART_PREDICATE) == predicate
                        && part(c, HEAD, PART_ONE) == one && part(c, HEAD, PART_TWO) == two) {
                    return c;
                }
            }
            return NONE;
        }

        void removeClause(int clause) {
            if (clause < 0 || clause >= clauses) {
                return;
            }
            int behind = clauses - clause - 1;
            System.arraycopy(sizes, clause + 1, sizes, clause, behind);
            System.arraycopy(needs, clause + 1, needs, clause, behind);
            System.arraycopy(parts, (clause + 1) * CLAUSE_PARTS, parts, clause * CLAUSE_PARTS, behind * CLAUSE_PARTS);
            clauses--;
        }

        int facts() {
            int count = 0;
            for (int c = 0; c < clauses; c++) {
                count += sizes[c] == 0 ? 1 : 0;
            }
            return count;
        }

        int clausesOf(int predicate) {
            int count = 0;
            for (int c = 0; c < clauses; c++) {
                count += part(c, HEAD, PART_PREDICATE) == predicate ? 1 : 0;
            }
            return count;
        }

        /** Strata that fit are below the number of predicates; what climbs up to it fits none. */
        int stratumOf(int predicate) {
            int[] strata = new int[MOST_PREDICATES];
            boolean risen = true;
            for (int round = 0; round <= MOST_PREDICATES * MOST_PREDICATES && risen; round++) {
                risen = false;
                for (int c = 0; c < clauses; c++) {
                    risen |= raiseHead(c, strata);
                }
            }
            return strata[predicate] >= MOST_PREDICATES ? NONE : strata[predicate];
        }

        private boolean raiseHead(int clause, int[] strata) {
            int head = part(clause, HEAD, PART_PREDICATE);
            int least = strata[head];
            for (int l = 0; l < sizes[clause]; l++) {
                int below = strata[part(clause, l, PART_PREDICATE)] + part(clause, l, PART_NOT);
                least = Math.max(least, Math.min(below, MOST_PREDICATES));
            }
            boolean risen = least > strata[head];
            strata[head] = least;
            return risen;
        }

        /** Which of count names from a slot on the bytes are; NONE if none. */
        int nameNumber(int slot, int count, int[] bytes, int at, int length) {
            for (int k = 0; k < count; k++) {
                boolean same = lengths[slot + k] == length;
                for (int i = 0; i < length && same; i++) {
                    same = letters[(slot + k) * MOST_LETTERS + i] == bytes[at + i];
                }
                if (same) {
                    return k;
                }
            }
            return NONE;
        }

        void putName(int slot, int[] bytes, int at, int length) {
            lengths[slot] = length;
            System.arraycopy(bytes, at, letters, slot * MOST_LETTERS, length);
        }
    }

    /** Reads one text into a program, up to its first fault. */
    private static final class Reader {
        private static final int END = -1;

        int fault;
        int place = NONE;
        private final int[] bytes;
        private final int end;
        private final Program into;
        private int at;
        private final int[] variables = new int[MOST_VARIABLES];
        private int variableCount;
        /** A bit for each variable that a plain literal of the clause has told so far. */
        private int safe;
        private final int[] headPlaces = new int[PART_TWO + 1];

        Reader(int[] bytes, int end, Program into) {
            this.bytes = bytes;
            this.end = Math.min(end, bytes.length);
            this.into = into;
        }

        boolean readText() {
            into.clear();
            for (int c = 0; c <= MOST_CLAUSES; c++) {
                if (next() == END) {
                    return true;
                }
                if (!readClause()) {
                    return false;
                }
            }
            return true;
        }

        private boolean fail(int kind, int where) {
            fault = kind;
            place = where;
            return false;
        }

        /** The byte behind the blanks that stand here. */
        private int next() {
            while (at < end && bytes[at] == ' ') {
                at++;
            }
            return at < end ? bytes[at] : END;
        }

        private boolean smallNext() {
            int sign = next();
            return sign >= 'a' && sign <= 'z';
        }

        private boolean readClause() {
            if (!smallNext()) {
                return fail(CANNOT_STAND, at);
            }
            if (into.clauses >= MOST_CLAUSES) {
                return fail(TOO_MANY, at);
            }
            variableCount = 0;
            safe = 0;
            if (!readAtom(HEAD, 0)) {
                return false;
            }
            if (next() == ':') {
                if (at + 1 >= end || bytes[at + 1] != '-') {
                    return fail(CANNOT_STAND, at);
                }
                at += 2;
                if (!readBody()) {
                    return false;
                }
            }
            if (next() != '.') {
                return fail(CANNOT_STAND, at);
            }
            at++;
            return closeClause();
        }

        private boolean closeClause() {
            for (int what = PART_ONE; what <= PART_TWO; what++) {
                int term = into.part(into.clauses, HEAD, what);
                if (term < 0 && !isSafe(term)) {
                    return fail(NOT_SAFE, headPlaces[what]);
                }
            }
            into.clauses++;
            return true;
        }

        private boolean isSafe(int variable) {
            return (safe >> (-1 - variable) & 1) == 1;
        }

        private boolean readBody() {
            for (int literal = 0; literal <= MOST_LITERALS; literal++) {
                if (!smallNext()) {
                    return fail(CANNOT_STAND, at);
                }
                if (literal == MOST_LITERALS) {
                    return fail(TOO_MANY, at);
                }
                int not = isNot(wordLength()) ? 1 : 0;
                at += not * 3;
                if (!smallNext()) {
                    return fail(CANNOT_STAND, at);
                }
                if (!readAtom(literal, not)) {
                    return false;
                }
                if (next() != ',') {
                    return true;
                }
                at++;
            }
            return true;
        }

        private int wordLength() {
            int length = 0;
            while (at + length < end && bytes[at + length] >= 'a' && bytes[at + length] <= 'z') {
                length++;
            }
            return length;
        }

        private boolean isNot(int length) {
            return length == 3 && at + 2 < end && bytes[at] == 'n' && bytes[at + 1] == 'o' && bytes[at + 2] == 't';
        }

        private boolean readAtom(int literal, int not) {
            int place = at;
            int known = into.predicates;
            int predicate = readName(true);
            if (predicate == NONE) {
                return false;
            }
            if (literal == HEAD) {
                into.putHead(into.clauses, predicate);
            } else {
                into.putLiteral(into.clauses, literal, predicate, not);
            }
            int terms = 0;
            if (next() == '(') {
                do {
                    at++;
                    terms++;
                    if (!readTerm(literal, terms, not)) {
                        return false;
                    }
                } while (next() == ',' && terms < 2);
                if (next() != ')') {
                    return fail(CANNOT_STAND, at);
                }
                at++;
            }
            if (predicate == known) {
                into.terms[predicate] = terms;
            }
            return into.terms[predicate] == terms || fail(OTHER_TERMS, place);
        }

        private boolean readTerm(int literal, int what, int not) {
            int sign = next();
            if (literal == HEAD) {
                headPlaces[what] = at;
            }
            int term;
            if (sign >= 'A' && sign <= 'Z') {
                term = readVariable(sign);
                if (term == 0) {
                    return false;
                }
                if (not == 1 && !isSafe(term)) {
                    return fail(NOT_SAFE, at - 1);
                }
                safe |= literal != HEAD && not == 0 ? 1 << (-1 - term) : 0;
            } else {
                term = readName(false);
                if (term == NONE) {
                    return false;
                }
            }
            into.putPart(into.clauses, literal, what, term);
            return true;
        }

        /** The variable's number, below 0; or 0, with the fault noted. */
        private int readVariable(int sign) {
            int v = 0;
            while (v < variableCount && variables[v] != sign) {
                v++;
            }
            if (v >= MOST_VARIABLES) {
                fail(TOO_MANY, at);
                return 0;
            }
            if (v == variableCount) {
                variables[v] = sign;
                variableCount++;
            }
            at++;
            return -1 - v;
        }

        /** The number of the predicate or constant of that name; NONE, with the fault noted. */
        private int readName(boolean ofPredicate) {
            int length = wordLength();
            if (length == 0 || isNot(length)) {
                fail(CANNOT_STAND, at);
                return NONE;
            }
            if (length > MOST_LETTERS) {
                fail(LONG_NAME, at);
                return NONE;
            }
            int slot = ofPredicate ? 0 : MOST_PREDICATES;
            int count = ofPredicate ? into.predicates : into.constants;
            int number = into.nameNumber(slot, count, bytes, at, length);
            if (number == NONE) {
                if (count >= (ofPredicate ? MOST_PREDICATES : MOST_CONSTANTS)) {
                    fail(TOO_MANY, at);
                    return NONE;
                }
                number = count;
                into.putName(slot + count, bytes, at, length);
                into.predicates += ofPredicate ? 1 : 0;
                into.constants += ofPredicate ? 0 : 1;
            }
            at += length;
            return number;
        }
    }

    /** Goes through a clause's instances, literal by literal, plain ones within one set of atoms, none by not within another. */
    private abstract static class Walk {
        Program program;
        final long[] plain;
        long[] barred;
        int clause;
        /** Of each variable its constant; below 0: none yet. */
        private final int[] bound = new int[MOST_VARIABLES];
        /** Of each variable the one that stands for it: a goal with one variable twice makes two of a head one. */
        private final int[] same = new int[MOST_VARIABLES];

        Walk(Program program, long[] plain, long[] barred) {
            this.program = program;
            this.plain = plain;
            this.barred = barred;
        }

        /** Told of each literal as it is when the walk comes to it. */
        abstract void meet(int literal, int one, int two);

        /** Told of each instance that the walk comes through. */
        abstract void end();

        final void throughClause(int which) {
            clause = which;
            loosen();
            body(0);
        }

        /** Goes through the instances of all clauses with a head like a goal. */
        final void throughClausesLike(Program from, int key) {
            program = from;
            for (int c = 0; c < program.clauses; c++) {
                clause = c;
                loosen();
                if (program.part(clause, HEAD, PART_PREDICATE) == keyPredicate(key)
                        && fit(keyOne(key), keyTwo(key))) {
                    body(0);
                }
            }
        }

        private void loosen() {
            for (int v = 0; v < MOST_VARIABLES; v++) {
                bound[v] = NONE;
                same[v] = v;
            }
        }

        /** Makes the clause's head and a goal alike; false if nothing does. */
        private boolean fit(int goalOne, int goalTwo) {
            int one = program.part(clause, HEAD, PART_ONE);
            int two = program.part(clause, HEAD, PART_TWO);
            if (goalOne >= 0 && !agree(one, goalOne) || goalTwo >= 0 && !agree(two, goalTwo)) {
                return false;
            }
            if (goalOne >= 0 || goalOne != goalTwo) {
                return true;
            }
            if (one >= 0) {
                return agree(two, one);
            }
            if (two >= 0) {
                return agree(one, two);
            }
            if (one >= -MOST_VARIABLES && two >= -MOST_VARIABLES) {
                same[-1 - two] = -1 - one;
            }
            return true;
        }

        private boolean agree(int term, int constant) {
            int now = read(term);
            bind(now, constant);
            return now < 0 || now == constant;
        }

        /** A term as it is by now: a constant, or below 0 the variable that stands for it. */
        final int read(int term) {
            if (term >= 0 || term < -MOST_VARIABLES) {
                return term;
            }
            int v = same[-1 - term];
            return bound[v] >= 0 ? bound[v] : -1 - v;
        }

        private void bind(int term, int constant) {
            if (term < 0 && term >= -MOST_VARIABLES) {
                bound[-1 - term] = constant;
            }
        }

        private void body(int literal) {
            if (literal >= program.sizes[clause] || literal >= MOST_LITERALS) {
                end();
                return;
            }
            int predicate = program.part(clause, literal, PART_PREDICATE);
            int one = read(program.part(clause, literal, PART_ONE));
            int two = read(program.part(clause, literal, PART_TWO));
            meet(literal, one, two);
            long like = likes(one, two);
            if (program.part(clause, literal, PART_NOT) == 1) {
                if ((barred[predicate] & like) == 0) {
                    body(literal + 1);
                }
                return;
            }
            long left = plain[predicate] & like;
            for (int n = 0; n < ATOMS_EACH && left != 0; n++) {
                int atom = lowestBit(left);
                left &= left - 1;
                bind(one, atom / MOST_CONSTANTS);
                bind(two, atom % MOST_CONSTANTS);
                body(literal + 1);
                bind(one, NONE);
                bind(two, NONE);
            }
        }
    }

    /** Adds to a set of atoms what follows. */
    private static final class Follower extends Walk {
        private int grownNow;

        Follower(Program program, long[] plain, long[] barred) {
            super(program, plain, barred);
        }

        void meet(int literal, int one, int two) {
        }

        void end() {
            int predicate = program.part(clause, HEAD, PART_PREDICATE);
            int one = read(program.part(clause, HEAD, PART_ONE));
            int two = read(program.part(clause, HEAD, PART_TWO));
            long atom = likes(one, two);
            if ((plain[predicate] & atom) == 0) {
                plain[predicate] |= atom;
                grownNow |= 1 << predicate;
            }
        }

        /** A clause is gone through again only as a predicate that it needs has grown. */
        void follow(Program from, long[] notThese) {
            program = from;
            barred = notThese;
            int grown = -1;
            for (int round = 0; round <= MOST_ATOMS && grown != 0; round++) {
                grownNow = 0;
                for (int c = 0; c < program.clauses; c++) {
                    if (round == 0 || (program.needs[c] & grown) != 0) {
                        throughClause(c);
                    }
                }
                grown = grownNow;
            }
        }
    }

    /** The well-founded model of a program, worked out when it is needed. */
    private static final class Model {
        boolean known;
        int stages;
        final long[] truth = new long[MOST_PREDICATES];
        final long[] possible = new long[MOST_PREDICATES];
        final int[] stageOf = new int[MOST_ATOMS];
        private final long[] grown = new long[MOST_PREDICATES];
        private final Follower follower;

        Model(Program program) {
            follower = new Follower(program, grown, truth);
        }

        void settle(Program program) {
            if (known) {
                return;
            }
            Arrays.fill(truth, 0L);
            Arrays.fill(stageOf, NONE);
            stages = 0;
            growPossible(program);
            noteStage(program.predicates);
            while (stages < MOST_ATOMS && growTruth(program)) {
                growPossible(program);
                stages++;
                noteStage(program.predicates);
            }
            known = true;
        }

        /** What is true already is in what follows from either set, so the growing starts there. */
        private void growPossible(Program program) {
            System.arraycopy(truth, 0, grown, 0, MOST_PREDICATES);
            follower.follow(program, truth);
            System.arraycopy(grown, 0, possible, 0, MOST_PREDICATES);
        }

        private boolean growTruth(Program program) {
            System.arraycopy(truth, 0, grown, 0, MOST_PREDICATES);
            follower.follow(program, possible);
            boolean more = false;
            for (int p = 0; p < MOST_PREDICATES; p++) {
                more |= truth[p] != grown[p];
                truth[p] = grown[p];
            }
            return more;
        }

        private void noteStage(int predicates) {
            for (int p = 0; p < predicates; p++) {
                long settled = truth[p] | ~possible[p];
                for (int a = 0; a < ATOMS_EACH; a++) {
                    int place = p * ATOMS_EACH + a;
                    if (stageOf[place] == NONE && (settled >>> a & 1) == 1) {
                        stageOf[place] = stages;
                    }
                }
            }
        }

        long undefinedOf(int predicate) {
            return possible[predicate] & ~truth[predicate];
        }

        int worth(int predicate, long atom) {
            if ((truth[predicate] & atom) != 0) {
                return TRUE;
            }
            return (possible[predicate] & atom) != 0 ? UNDEFINED : FALSE;
        }

        int trueAtoms() {
            int count = 0;
            for (int p = 0; p < MOST_PREDICATES; p++) {
                count += Long.bitCount(truth[p]);
            }
            return count;
        }

        int undefinedAtoms() {
            int count = 0;
            for (int p = 0; p < MOST_PREDICATES; p++) {
                count += Long.bitCount(undefinedOf(p));
            }
            return count;
        }
    }

    /** Finds the conditions of an undefined atom: literals bind variables as they come in the clause, so a walk meets them in order. */
    private static final class Weigher extends Walk {
        int count;
        int foundClause;
        int delayedCount;
        final int[] delayed = new int[MOST_LITERALS];
        private int wanted;
        private final Model model;

        Weigher(Program program, Model model) {
            super(program, model.possible, model.truth);
            this.model = model;
        }

        void weigh(Program from, int key, int which) {
            wanted = which;
            count = 0;
            throughClausesLike(from, key);
        }

        void meet(int literal, int one, int two) {
        }

        void end() {
            count++;
            if (count - 1 != wanted) {
                return;
            }
            foundClause = clause;
            delayedCount = 0;
            for (int l = 0; l < program.sizes[clause] && l < MOST_LITERALS; l++) {
                int one = read(program.part(clause, l, PART_ONE));
                int two = read(program.part(clause, l, PART_TWO));
                if (model.worth(program.part(clause, l, PART_PREDICATE), likes(one, two)) == UNDEFINED) {
                    delayed[delayedCount] = l;
                    delayedCount++;
                }
            }
        }
    }

    /** Collects the goals that a goal calls. */
    private static final class Caller extends Walk {
        int count;
        final int[] keys = new int[MOST_TABLES];
        /** Of each key how it was called; 0: not at all. */
        final int[] ways = new int[GOAL_KEYS];

        Caller(Program program, Model model) {
            super(program, model.possible, model.truth);
        }

        void collect(Program from, int key) {
            for (int i = 0; i < count; i++) {
                ways[keys[i]] = 0;
            }
            count = 0;
            throughClausesLike(from, key);
        }

        void meet(int literal, int one, int two) {
            int key = keyOf(program.part(clause, literal, PART_PREDICATE), one, two);
            if (ways[key] == 0 && count < MOST_TABLES) {
                keys[count] = key;
                count++;
            }
            ways[key] |= program.part(clause, literal, PART_NOT) == 1 ? BY_NOT : PLAINLY;
        }

        void end() {
        }
    }

    /** What is remembered of one goal. */
    private static final class Table {
        final int number;
        int key;
        boolean fresh;
        long truths;
        long undefineds;
        int callCount;
        int from;
        int hits;
        int made;
        /** While an ask goes on: the next call to go into, the order of coming, the earliest one open that it comes to. */
        int next;
        int order;
        int low;
        boolean open;
        Table below;
        Table openBelow;
        boolean marked;
        boolean reached;
        private int[] called = new int[0];

        Table(int number) {
            this.number = number;
        }

        void begin(int goal, int caller) {
            key = goal;
            from = caller;
            fresh = false;
            hits = 0;
            made = 0;
            callCount = 0;
        }

        void make(Model model, Caller caller) {
            int predicate = keyPredicate(key);
            long like = likes(keyOne(key), keyTwo(key));
            truths = model.truth[predicate] & like;
            undefineds = model.undefinedOf(predicate) & like;
            fresh = true;
            made++;
            callCount = caller.count;
            if (called.length < callCount) {
                called = new int[Math.max(callCount, 2 * called.length)];
            }
            for (int i = 0; i < callCount; i++) {
                int goal = caller.keys[i];
                called[i] = goal * (BOTH_WAYS + 1) + caller.ways[goal];
            }
        }

        int calledKey(int i) {
            return called[i] / (BOTH_WAYS + 1);
        }

        int calledWays(int i) {
            return called[i] % (BOTH_WAYS + 1);
        }

        long answers() {
            return truths | undefineds;
        }

        private int nodes() {
            long answers = answers();
            int one = keyOne(key);
            int two = keyTwo(key);
            if (answers == 0) {
                return 0;
            }
            if (one >= 0 && two >= 0) {
                return 1;
            }
            int nodes = 1 + Long.bitCount(answers);
            for (int c = 0; c < MOST_CONSTANTS && one < 0 && two < 0 && one != two; c++) {
                nodes += (answers & ROW << (MOST_CONSTANTS * c)) != 0 ? 1 : 0;
            }
            return nodes;
        }

        int tell(int what) {
            switch (what) {
                case 0: return keyPredicate(key);
                case 1: return keyOne(key);
                case 2: return keyTwo(key);
                case 3: return fresh ? 1 : 0;
                case 4: return Long.bitCount(truths);
                case 5: return Long.bitCount(undefineds);
                case 6: return nodes();
                case 8: return callCount;
                case 9: return from;
                case 10: return hits;
                default: return made;
            }
        }
    }

    /** All tables; those that are gone are kept to be used again. */
    private static final class Tables {
        int count;
        int madeInAll;
        int hitsInAll;
        int completedCount;
        final int[] completedOnes = new int[MOST_TABLES];
        final int[] numberOf = new int[GOAL_KEYS];
        private final Table[] all = new Table[MOST_TABLES];
        private final Model model;
        private final Caller caller;
        private final int[] queue = new int[MOST_TABLES];
        private final boolean[] seen = new boolean[GOAL_KEYS];
        private int orders;
        private Table path;
        private Table opened;

        Tables(Program program, Model model) {
            this.model = model;
            caller = new Caller(program, model);
            Arrays.fill(numberOf, NONE);
        }

        void startAnew() {
            clear();
            madeInAll = 0;
            hitsInAll = 0;
        }

        void clear() {
            Arrays.fill(numberOf, NONE);
            count = 0;
            completedCount = 0;
        }

        Table at(int number) {
            return number < 0 || number >= count ? null : all[number];
        }

        private Table ofKey(int key) {
            return key < 0 || key >= GOAL_KEYS ? null : at(numberOf[key]);
        }

        int askFor(int key, Program program) {
            completedCount = 0;
            orders = 0;
            path = null;
            opened = null;
            goInto(key, program);
            for (int step = 0; step < MOST_STEPS && path != null; step++) {
                Table top = path;
                if (top.next < top.callCount) {
                    top.next++;
                    goInto(top.calledKey(top.next - 1), program);
                } else {
                    leave(top);
                }
            }
            return numberOf[key];
        }

        private void goInto(int key, Program program) {
            Table table = ofKey(key);
            if (table != null && table.fresh) {
                hit(table);
                return;
            }
            if (table == null) {
                table = add(key);
            }
            if (table == null) {
                return;
            }
            caller.collect(program, key);
            table.make(model, caller);
            madeInAll++;
            table.next = 0;
            table.order = orders;
            table.low = orders;
            orders++;
            table.open = true;
            table.openBelow = opened;
            opened = table;
            table.below = path;
            path = table;
        }

        private void hit(Table table) {
            table.hits++;
            hitsInAll++;
            if (path != null && table.open) {
                path.low = Math.min(path.low, table.order);
            }
        }

        private Table add(int key) {
            if (count >= MOST_TABLES) {
                return null;
            }
            if (all[count] == null) {
                all[count] = new Table(count);
            }
            Table table = all[count];
            table.begin(key, path == null ? NONE : path.number);
            numberOf[key] = count;
            count++;
            return table;
        }

        private void leave(Table top) {
            path = top.below;
            if (path != null) {
                path.low = Math.min(path.low, top.low);
            }
            if (top.low == top.order) {
                complete(top);
            }
        }

        /** All that were opened from the first one of a leader on are that leader's. */
        private void complete(Table first) {
            int start = completedCount;
            for (int n = 0; n < MOST_TABLES && first.open && opened != null; n++) {
                Table table = opened;
                opened = table.openBelow;
                table.open = false;
                putCompleted(start, table.number);
            }
        }

        private void putCompleted(int start, int number) {
            if (completedCount >= MOST_TABLES) {
                return;
            }
            int at = completedCount;
            while (at > start && completedOnes[at - 1] > number) {
                completedOnes[at] = completedOnes[at - 1];
                at--;
            }
            completedOnes[at] = number;
            completedCount++;
        }

        int freshOnes() {
            int fresh = 0;
            for (int t = 0; t < count; t++) {
                fresh += all[t].fresh ? 1 : 0;
            }
            return fresh;
        }

        /** Makes stale what a fact touches; how many were not stale before. */
        int spoil(int predicate, long atom) {
            for (int t = 0; t < count; t++) {
                int key = all[t].key;
                all[t].marked = keyPredicate(key) == predicate && (likes(keyOne(key), keyTwo(key)) & atom) != 0;
            }
            spreadBack();
            int spoiled = 0;
            for (int t = 0; t < count; t++) {
                if (all[t].marked && all[t].fresh) {
                    all[t].fresh = false;
                    spoiled++;
                }
            }
            return spoiled;
        }

        /** Marks all that come to a marked one by calls. */
        private void spreadBack() {
            boolean grown = true;
            for (int round = 0; round <= count && grown; round++) {
                grown = false;
                for (int t = count - 1; t >= 0; t--) {
                    if (!all[t].marked && callsMarked(all[t])) {
                        all[t].marked = true;
                        grown = true;
                    }
                }
            }
        }

        private boolean callsMarked(Table table) {
            for (int i = 0; i < table.callCount; i++) {
                Table called = ofKey(table.calledKey(i));
                if (called != null && called.marked) {
                    return true;
                }
            }
            return false;
        }

        int leaderOf(int number) {
            for (int t = 0; t < count; t++) {
                all[t].marked = t == number;
                all[t].reached = t == number;
            }
            spreadBack();
            spreadOn(number);
            for (int t = 0; t < number && t < count; t++) {
                if (all[t].marked && all[t].reached) {
                    return t;
                }
            }
            return number;
        }

        /** Notes all that a table comes to by calls. */
        private void spreadOn(int number) {
            queue[0] = number;
            int length = 1;
            for (int done = 0; done < length; done++) {
                Table table = all[queue[done]];
                for (int i = 0; i < table.callCount; i++) {
                    Table called = ofKey(table.calledKey(i));
                    if (called != null && !called.reached && length < MOST_TABLES) {
                        called.reached = true;
                        queue[length] = called.number;
                        length++;
                    }
                }
            }
        }

        int callersOf(int number) {
            int callers = 0;
            for (int t = 0; t < count; t++) {
                all[t].marked = t == number;
            }
            for (int t = 0; t < count; t++) {
                callers += callsMarked(all[t]) ? 1 : 0;
            }
            return callers;
        }

        /** Here the queue holds keys, for goals that have no table count too. */
        int reachedFrom(int key, Program program) {
            queue[0] = key;
            seen[key] = true;
            int length = 1;
            for (int done = 0; done < length; done++) {
                caller.collect(program, queue[done]);
                for (int i = 0; i < caller.count; i++) {
                    int goal = caller.keys[i];
                    if (!seen[goal] && length < MOST_TABLES) {
                        seen[goal] = true;
                        queue[length] = goal;
                        length++;
                    }
                }
            }
            for (int i = 0; i < length; i++) {
                seen[queue[i]] = false;
            }
            return length;
        }

        long sum() {
            long sum = 0;
            for (int t = 0; t < count; t++) {
                Table table = all[t];
                sum = 31 * sum + keyPredicate(table.key);
                sum = 31 * sum + Long.bitCount(table.truths);
                sum = 31 * sum + Long.bitCount(table.undefineds);
            }
            return sum;
        }
    }
}
