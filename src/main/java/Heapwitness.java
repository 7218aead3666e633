import java.util.NoSuchElementException;

/** A prover for programs with pointers; ../shared/DOC.md says what each method answers and throws. */
public final class Heapwitness {
    private static final int VARIABLES = 4;
    private static final int ASSERTIONS = 10;
    private static final int FACTS = 6;
    private static final int ATOMS = 4;
    private static final int STATEMENTS = 40;

    /** No assertion allows more than 122 states: one list from a variable to nil, decided for all. */
    private static final int STATES = 128;

    /**
     * Nil, 4 named places, 4 second cells of lists, and one more place a statement are 49;
     * 64 is the most that fits into the bits of a long.
     */
    private static final int PLACES = 64;

    /** Far above what any run needs: it shows that a loop ends. */
    private static final int TURNS = 1000000;

    /** What is answered instead of a number that is never below 0. */
    private static final int NONE = -1;

    /** Where a state goes on: at a statement by its number, or at one of these. */
    private static final int ENDED = -1;
    private static final int STOPPED = -2;
    /** Less the number of the repeated statement whose part has been done. */
    private static final int BACK = -3;

    private final Assertion[] assertions = new Assertion[ASSERTIONS];
    private int assertionCount = 0;
    private final Program program = new Program();
    private final Decider decider = new Decider();
    private final Heaps heaps = new Heaps(decider);
    private final Proof proof = new Proof(program, decider);
    private final Trial trial = new Trial(program, decider, heaps);

    private int proofCount = 0;
    private int provedCount = 0;
    private long begunStates = 0;
    private boolean isChangedSinceProof = false;

    public Heapwitness() {
    }

    // ---- assertions

    public int addAssertion() throws IllegalStateException {
        if (assertionCount < 0 || assertionCount >= assertions.length) {
            throw new IllegalStateException("there are 10 assertions");
        }
        assertions[assertionCount] = new Assertion();
        assertionCount++;
        return assertionCount - 1;
    }

    public int addFact(int assertion, boolean areSame, int x, int y)
            throws IndexOutOfBoundsException, IllegalArgumentException, IllegalStateException {
        return addPair(assertionAt(assertion).facts, areSame, x, y);
    }

    public int addAtom(int assertion, boolean isList, int x, int y)
            throws IndexOutOfBoundsException, IllegalArgumentException, IllegalStateException {
        return addPair(assertionAt(assertion).atoms, isList, x, y);
    }

    public int states(int assertion) throws IndexOutOfBoundsException {
        Assertion decided = assertionAt(assertion);
        decider.decide(decided, decided.variables());
        return decider.count;
    }

    public boolean follows(int assertion, int other) throws IndexOutOfBoundsException {
        return deduces(assertionAt(assertion), assertionAt(other));
    }

    public boolean followsByHeaps(int assertion, int other) throws IndexOutOfBoundsException {
        return smallestAgainst(assertionAt(assertion), assertionAt(other)) == NONE;
    }

    public int against(int assertion, int other) throws IndexOutOfBoundsException, NoSuchElementException {
        int cells = smallestAgainst(assertionAt(assertion), assertionAt(other));
        if (cells == NONE) {
            throw new NoSuchElementException("the other one follows");
        }
        return cells;
    }

    public int left(int assertion, int other) throws IndexOutOfBoundsException, NoSuchElementException {
        Assertion whole = assertionAt(assertion);
        Assertion rest = assertionAt(other);
        decider.decide(whole, whole.variables() | rest.variables());
        int most = 0;
        for (int i = 0; i < decider.count; i++) {
            int behind = decider.row(i).leftBehind(rest);
            if (behind == NONE) {
                throw new NoSuchElementException("it does not hold for a part of some state");
            }
            most = Math.max(most, behind);
        }
        return most;
    }

    // ---- statements

    public int assign(int x, int y) throws IllegalArgumentException, IllegalStateException {
        checkTarget(x);
        checkVariable(y);
        checkRoom();
        return program.append(Statement.ASSIGN, x, y);
    }

    public int load(int x, int y) throws IllegalArgumentException, IllegalStateException {
        checkTarget(x);
        checkVariable(y);
        checkRoom();
        return program.append(Statement.LOAD, x, y);
    }

    public int store(int x, int y) throws IllegalArgumentException, IllegalStateException {
        checkVariable(x);
        checkVariable(y);
        checkRoom();
        return program.append(Statement.STORE, x, y);
    }

    public int make(int x) throws IllegalArgumentException, IllegalStateException {
        checkTarget(x);
        checkRoom();
        return program.append(Statement.MAKE, x, 0);
    }

    public int free(int x) throws IllegalArgumentException, IllegalStateException {
        checkVariable(x);
        checkRoom();
        return program.append(Statement.FREE, x, 0);
    }

    public int follow(int first, int second)
            throws IndexOutOfBoundsException, UnsupportedOperationException, IllegalStateException {
        checkParts(first, second);
        checkRoom();
        int number = program.append(Statement.FOLLOW, 0, 0);
        program.takeParts(number, first, second);
        return number;
    }

    public int choose(int x, int y, int first, int second) throws IllegalArgumentException,
            IndexOutOfBoundsException, UnsupportedOperationException, IllegalStateException {
        checkVariable(x);
        checkVariable(y);
        checkParts(first, second);
        checkRoom();
        int number = program.append(Statement.CHOOSE, x, y);
        program.takeParts(number, first, second);
        return number;
    }

    public int repeat(boolean whileSame, int x, int y, int part, int invariant) throws IllegalArgumentException,
            IndexOutOfBoundsException, UnsupportedOperationException, IllegalStateException {
        checkVariable(x);
        checkVariable(y);
        checkStatement(part);
        Assertion kept = assertionAt(invariant);
        if (program.statement(part).isPart) {
            throw new UnsupportedOperationException("it is a part already");
        }
        checkRoom();
        int number = program.append(Statement.REPEAT, x, y);
        program.takePart(number, part);
        program.statement(number).keep(whileSame, kept);
        return number;
    }

    // ---- proofs

    public char prove(int before, int statement, int after) throws IndexOutOfBoundsException {
        Assertion first = assertionAt(before);
        Assertion last = assertionAt(after);
        checkStatement(statement);
        proof.run(first, statement, last);
        proofCount++;
        begunStates += proof.begun;
        isChangedSinceProof = false;
        char end = proof.end();
        if (end == Proof.PROVED) {
            provedCount++;
        }
        return end;
    }

    public int wrongAt() throws NoSuchElementException {
        if (proofCount == 0 || proof.lowestWrong == NONE) {
            throw new NoSuchElementException("no proof went wrong");
        }
        return proof.lowestWrong;
    }

    public int cameTo(int statement) throws IndexOutOfBoundsException, NoSuchElementException {
        checkStatement(statement);
        if (proofCount == 0) {
            throw new NoSuchElementException("there was no proof");
        }
        return proof.arrivals(statement);
    }

    public int witness(int before, int statement, int after)
            throws IndexOutOfBoundsException, NoSuchElementException {
        Assertion first = assertionAt(before);
        Assertion last = assertionAt(after);
        checkStatement(statement);
        trial.search(first, statement, last);
        if (trial.smallest == NONE) {
            throw new NoSuchElementException("there is no witness");
        }
        return trial.smallest;
    }

    public int witnesses(int before, int statement, int after) throws IndexOutOfBoundsException {
        Assertion first = assertionAt(before);
        Assertion last = assertionAt(after);
        checkStatement(statement);
        trial.search(first, statement, last);
        return trial.found;
    }

    // ---- figures

    public long allStates() {
        return begunStates;
    }

    public float provedShare() throws ArithmeticException {
        if (proofCount == 0) {
            throw new ArithmeticException("there were no proofs");
        }
        return (float) provedCount / (float) proofCount;
    }

    public double meanAtoms(int assertion) throws IndexOutOfBoundsException, ArithmeticException {
        Assertion decided = assertionAt(assertion);
        decider.decide(decided, decided.variables());
        if (decider.count == 0) {
            throw new ArithmeticException("it allows no state");
        }
        int sum = 0;
        for (int i = 0; i < decider.count; i++) {
            sum += decider.row(i).atoms();
        }
        return (double) sum / (double) decider.count;
    }

    public boolean isSound() {
        if (assertionCount >= 2) {
            Assertion last = assertionAt(assertionCount - 1);
            Assertion other = assertionAt(assertionCount - 2);
            if (deduces(last, other) != (smallestAgainst(last, other) == NONE)
                    || deduces(other, last) != (smallestAgainst(other, last) == NONE)) {
                return false;
            }
        }
        if (proofCount == 0 || isChangedSinceProof || proof.end() != Proof.PROVED) {
            return true;
        }
        trial.search(proof.before, proof.root, proof.after);
        return trial.found == 0;
    }

    // ---- what the calls share

    private Assertion assertionAt(int number) {
        if (number < 0 || number >= assertions.length || assertions[number] == null) {
            throw new IndexOutOfBoundsException("there is no such assertion");
        }
        return assertions[number];
    }

    private void checkVariable(int variable) {
        if (variable < 0 || variable > VARIABLES) {
            throw new IllegalArgumentException("there is no such variable");
        }
    }

    private void checkTarget(int variable) {
        if (variable < 1 || variable > VARIABLES) {
            throw new IllegalArgumentException("there is no such variable that can get something");
        }
    }

    private void checkStatement(int number) {
        if (number < 0 || number >= program.count) {
            throw new IndexOutOfBoundsException("there is no such statement");
        }
    }

    private void checkParts(int first, int second) {
        checkStatement(first);
        checkStatement(second);
        if (first == second || program.statement(first).isPart || program.statement(second).isPart) {
            throw new UnsupportedOperationException("one is a part already, or both are the same");
        }
    }

    private void checkRoom() {
        if (program.count >= STATEMENTS) {
            throw new IllegalStateException("there are 40 statements");
        }
    }

    private int addPair(Pairs pairs, boolean isMarked, int x, int y) {
        checkVariable(x);
        checkVariable(y);
        if (pairs.isFull()) {
            throw new IllegalStateException("it has no room for one more");
        }
        pairs.append(isMarked, x, y);
        isChangedSinceProof = true;
        return pairs.count;
    }

    private boolean deduces(Assertion assertion, Assertion other) {
        decider.decide(assertion, assertion.variables() | other.variables());
        for (int i = 0; i < decider.count; i++) {
            if (!decider.row(i).satisfies(other)) {
                return false;
            }
        }
        return true;
    }

    /** The cells of a smallest heap for which the one assertion holds and the other one does not, or NONE. */
    private int smallestAgainst(Assertion assertion, Assertion other) {
        int smallest = NONE;
        decider.decide(assertion, assertion.variables() | other.variables());
        heaps.begin();
        for (int turn = 0; turn < TURNS && heaps.advance(); turn++) {
            int cells = heaps.heap.atoms();
            if ((smallest == NONE || cells < smallest) && !heaps.heap.satisfies(other)) {
                smallest = cells;
            }
        }
        return smallest;
    }

    /** Pairs of variables with a mark each: facts, marked if both are the same, or atoms, marked if lists. */
    private static final class Pairs {
        private final boolean[] marks;
        private final int[] xs;
        private final int[] ys;
        int count = 0;

        Pairs(int limit) {
            int room = limit < 0 ? 0 : limit;
            marks = new boolean[room];
            xs = new int[room];
            ys = new int[room];
        }

        boolean isFull() {
            return count >= marks.length;
        }

        void append(boolean isMarked, int x, int y) {
            if (count >= 0 && count < marks.length && count < xs.length && count < ys.length) {
                marks[count] = isMarked;
                xs[count] = x;
                ys[count] = y;
                count++;
            }
        }

        boolean isMarked(int i) {
            return i >= 0 && i < marks.length && marks[i];
        }

        int x(int i) {
            return i >= 0 && i < xs.length ? xs[i] : 0;
        }

        int y(int i) {
            return i >= 0 && i < ys.length ? ys[i] : 0;
        }

        /** The variables that stand in it, a bit each. */
        int variables() {
            int bits = 0;
            for (int i = 0; i < count; i++) {
                bits |= 1 << x(i) | 1 << y(i);
            }
            return bits;
        }
    }

    private static final class Assertion {
        final Pairs facts = new Pairs(FACTS);
        final Pairs atoms = new Pairs(ATOMS);

        int variables() {
            return facts.variables() | atoms.variables();
        }
    }

    /**
     * Where the variables are, and what begins at each place: nothing, a cell or a list of one cell or more.
     * Different places are never the same, and what lies within a list has no number here.
     * A state without lists is a heap.
     */
    private static final class State {
        static final int NOTHING = 0;
        static final int CELL = 1;
        static final int LIST = 2;

        /** The bit of nil, where no cell is. */
        private static final long ABSENT = 1L;

        /** How many places it has numbers for, nil among them: 1 at least. */
        private final int room;
        private final int[] spots = new int[VARIABLES + 1];
        private final int[] kinds;
        /** The value of the cell at each place, or what the last cell of the list has. */
        private final int[] ends;
        int places = 1;
        /** The statement at which it waits to go on. */
        int next = ENDED;

        State(int limit) {
            room = Math.max(1, limit);
            kinds = new int[room];
            ends = new int[room];
        }

        void copy(State other) {
            places = Math.max(1, Math.min(other.places, Math.min(room, other.room)));
            System.arraycopy(other.spots, 0, spots, 0, VARIABLES + 1);
            System.arraycopy(other.kinds, 0, kinds, 0, places);
            System.arraycopy(other.ends, 0, ends, 0, places);
            next = other.next;
        }

        int spot(int variable) {
            return variable > 0 && variable < spots.length ? spots[variable] : 0;
        }

        void move(int variable, int place) {
            if (variable > 0 && variable < spots.length) {
                spots[variable] = place;
            }
        }

        boolean areSame(int x, int y) {
            return spot(x) == spot(y);
        }

        int kindAt(int place) {
            return place > 0 && place < kinds.length ? kinds[place] : NOTHING;
        }

        int endAt(int place) {
            return place > 0 && place < ends.length ? ends[place] : 0;
        }

        void put(int place, int kind, int end) {
            if (place > 0 && place < kinds.length && place < ends.length) {
                kinds[place] = kind;
                ends[place] = end;
            }
        }

        /** Puts something at a place that nothing has had so far. */
        int putAnew(int kind, int end) {
            int place = places;
            if (place >= room) {
                return 0;
            }
            places++;
            put(place, kind, end);
            return place;
        }

        /** Starts anew with so many places, and nothing at them. */
        void clear(int number) {
            places = Math.max(1, Math.min(number, room));
            for (int place = 0; place < places; place++) {
                put(place, NOTHING, 0);
            }
        }

        /** Makes a cell of the first one of a list; the rest begins at a new place, if there is one. */
        void open(int place, boolean hasRest, int restKind) {
            int end = endAt(place);
            put(place, CELL, hasRest ? putAnew(restKind, end) : end);
        }

        /** How many cells and lists there are. */
        int atoms() {
            int number = 0;
            for (int place = 1; place < places; place++) {
                if (kindAt(place) != NOTHING) {
                    number++;
                }
            }
            return number;
        }

        int lists() {
            int number = 0;
            for (int place = 1; place < places; place++) {
                if (kindAt(place) == LIST) {
                    number++;
                }
            }
            return number;
        }

        boolean agrees(Pairs facts) {
            for (int i = 0; i < facts.count; i++) {
                if ((spot(facts.x(i)) == spot(facts.y(i))) != facts.isMarked(i)) {
                    return false;
                }
            }
            return true;
        }

        /**
         * Whether an assertion holds for all lengths of the lists. No length needs to be tried: a list is never
         * just the cell that an atom asks for, as it can be longer, and an atom that asks for a list runs through
         * one of any length.
         */
        boolean satisfies(Assertion assertion) {
            return leftBehind(assertion) == 0;
        }

        /** How many cells and lists no atom of an assertion takes, or NONE if it holds for no part of this. */
        int leftBehind(Assertion assertion) {
            Pairs atoms = assertion.atoms;
            if (!agrees(assertion.facts)) {
                return NONE;
            }
            long taken = 0;
            for (int i = 0; i < atoms.count; i++) {
                int begin = spot(atoms.x(i));
                int end = spot(atoms.y(i));
                long asked = atoms.isMarked(i) ? listOf(begin, end) : cellOf(begin, end);
                if (asked == ABSENT || (asked & taken) != 0) {
                    return NONE;
                }
                taken |= asked;
            }
            return atoms() - Long.bitCount(taken);
        }

        private long cellOf(int begin, int end) {
            return kindAt(begin) == CELL && endAt(begin) == end ? 1L << begin : ABSENT;
        }

        private long listOf(int begin, int end) {
            long found = 0;
            int place = begin;
            for (int i = 0; i < places && place != end; i++) {
                if (kindAt(place) == NOTHING) {
                    return ABSENT;
                }
                found |= 1L << place;
                place = endAt(place);
            }
            return place == end ? found : ABSENT;
        }
    }

    /** Finds all states that an assertion allows, and keeps them until the next one is decided. */
    private static final class Decider {
        private final State[] rows = new State[STATES];
        /** The parting that is gone through now, with the atoms as they were told. */
        private final State draft = new State(VARIABLES + 1);
        int count = 0;

        Decider() {
            for (int i = 0; i < rows.length; i++) {
                rows[i] = new State(VARIABLES + 1);
            }
        }

        State row(int i) {
            return i >= 0 && i < rows.length && rows[i] != null ? rows[i] : draft;
        }

        void decide(Assertion assertion, int variables) {
            count = 0;
            for (int variable = 1; variable <= VARIABLES; variable++) {
                draft.move(variable, 0);
            }
            boolean isMore = true;
            for (int turn = 0; turn < TURNS && isMore; turn++) {
                draft.clear(highestSpot(VARIABLES) + 1);
                if (draft.agrees(assertion.facts) && hasBegun(assertion.atoms)) {
                    addPlacings();
                }
                isMore = partOtherwise(variables);
            }
        }

        private int highestSpot(int upTo) {
            int highest = 0;
            for (int variable = 1; variable <= upTo; variable++) {
                highest = Math.max(highest, draft.spot(variable));
            }
            return highest;
        }

        /**
         * Goes on to the next parting: each variable is at nil, at the place of one with a lower number,
         * or at the next place, so that each parting comes once.
         */
        private boolean partOtherwise(int variables) {
            for (int variable = VARIABLES; variable >= 1; variable--) {
                if ((variables >> variable & 1) != 0) {
                    int spot = draft.spot(variable);
                    if (spot <= highestSpot(variable - 1)) {
                        draft.move(variable, spot + 1);
                        return true;
                    }
                    draft.move(variable, 0);
                }
            }
            return false;
        }

        /** Puts the atoms where they begin; tells whether they can all begin there. */
        private boolean hasBegun(Pairs atoms) {
            for (int i = 0; i < atoms.count; i++) {
                int begin = draft.spot(atoms.x(i));
                int end = draft.spot(atoms.y(i));
                if (!atoms.isMarked(i) || begin != end) {
                    if (begin == 0 || draft.kindAt(begin) != State.NOTHING) {
                        return false;
                    }
                    draft.put(begin, atoms.isMarked(i) ? State.LIST : State.CELL, end);
                }
            }
            return true;
        }

        /** Adds the draft with each place at which no atom begins outside, or within each list that it can be in. */
        private void addPlacings() {
            int start = count;
            addRow(draft);
            for (int place = 1; place < draft.places; place++) {
                if (draft.kindAt(place) == State.NOTHING) {
                    int stop = count;
                    for (int i = start; i < stop; i++) {
                        addWithin(row(i), place);
                    }
                }
            }
        }

        private void addWithin(State outside, int place) {
            for (int list = 1; list < draft.places; list++) {
                int end = draft.endAt(list);
                if (draft.kindAt(list) == State.LIST && end != place) {
                    int piece = list;
                    for (int i = 0; i < PLACES && piece != end; i++) {
                        State within = addRow(outside);
                        within.put(place, State.LIST, outside.endAt(piece));
                        within.put(piece, State.LIST, place);
                        piece = outside.endAt(piece);
                    }
                }
            }
        }

        private State addRow(State like) {
            State added = row(count);
            if (count < rows.length) {
                count++;
                added.copy(like);
            }
            return added;
        }
    }

    /** Builds all heaps of what has been decided, one after the other: its states, each list with 1 or 2 cells. */
    private static final class Heaps {
        private final Decider decider;
        final State heap = new State(PLACES);
        private int row = 0;
        /** Which lists have 2 cells, a bit each. */
        private int lengths = 0;

        Heaps(Decider decider) {
            this.decider = decider;
        }

        void begin() {
            row = 0;
            lengths = 0;
        }

        /** Builds the next heap, if there is one more. */
        boolean advance() {
            if (row >= decider.count) {
                return false;
            }
            State state = decider.row(row);
            int bits = lengths;
            heap.copy(state);
            for (int place = 1; place < state.places; place++) {
                if (state.kindAt(place) == State.LIST) {
                    heap.open(place, (bits & 1) != 0, State.CELL);
                    bits >>= 1;
                }
            }
            lengths++;
            if (lengths >= 1 << state.lists()) {
                lengths = 0;
                row++;
            }
            return true;
        }
    }

    private static final class Statement {
        static final int ASSIGN = 0;
        static final int LOAD = 1;
        static final int STORE = 2;
        static final int MAKE = 3;
        static final int FREE = 4;
        static final int FOLLOW = 5;
        static final int CHOOSE = 6;
        static final int REPEAT = 7;

        final int kind;
        final int x;
        final int y;
        int first = NONE;
        int second = NONE;
        boolean isPart = false;
        private boolean whileSame = false;
        /** Null if it does not repeat. */
        Assertion invariant = null;
        /** Whether it stands in the program that is gone through now, and where that goes on behind it. */
        boolean isInside = false;
        int next = ENDED;

        Statement(int kind, int x, int y) {
            this.kind = kind;
            this.x = x;
            this.y = y;
        }

        void keep(boolean isWhileSame, Assertion kept) {
            whileSame = isWhileSame;
            invariant = kept;
        }

        int variables() {
            int bits = 1 << x | 1 << y;
            return invariant == null ? bits : bits | invariant.variables();
        }

        /** Where a state goes from a choice. */
        int chosen(State state) {
            return state.areSame(x, y) ? first : second;
        }

        /** Where a state goes from the head of a loop. */
        int looped(State state) {
            return state.areSame(x, y) == whileSame ? first : next;
        }

        boolean needsCell() {
            return kind == LOAD || kind == STORE || kind == FREE;
        }

        /** The place at which it needs a cell. */
        int target(State state) {
            return state.spot(kind == LOAD ? y : x);
        }

        /** Does it, if it has no parts; a list at its place must have been opened. */
        void act(State state) {
            switch (kind) {
                case ASSIGN:
                    state.move(x, state.spot(y));
                    break;
                case LOAD:
                    state.move(x, state.endAt(state.spot(y)));
                    break;
                case STORE:
                    state.put(state.spot(x), State.CELL, state.spot(y));
                    break;
                case MAKE:
                    state.move(x, state.putAnew(State.CELL, 0));
                    break;
                case FREE:
                    state.put(state.spot(x), State.NOTHING, 0);
                    break;
                default:
                    break;
            }
        }
    }

    private static final class Program {
        private final Statement[] rows = new Statement[STATEMENTS];
        private final Statement nothing = new Statement(Statement.ASSIGN, 0, 0);
        int count = 0;

        Statement statement(int number) {
            return number >= 0 && number < rows.length && rows[number] != null ? rows[number] : nothing;
        }

        int append(int kind, int x, int y) {
            if (count < 0 || count >= rows.length) {
                return NONE;
            }
            rows[count] = new Statement(kind, x, y);
            count++;
            return count - 1;
        }

        void takePart(int number, int part) {
            statement(number).first = part;
            statement(part).isPart = true;
        }

        void takeParts(int number, int first, int second) {
            takePart(number, first);
            statement(number).second = second;
            statement(second).isPart = true;
        }

        /** Tells each statement of the program that begins at a root where it goes on behind it. */
        void link(int root) {
            for (int i = 0; i < count; i++) {
                statement(i).isInside = false;
            }
            join(root, ENDED);
            // parts have lower numbers than what they are parts of
            for (int i = root; i >= 0; i--) {
                Statement whole = statement(i);
                if (whole.isInside && whole.kind == Statement.FOLLOW) {
                    join(whole.first, whole.second);
                    join(whole.second, whole.next);
                } else if (whole.isInside && whole.kind == Statement.CHOOSE) {
                    join(whole.first, whole.next);
                    join(whole.second, whole.next);
                } else if (whole.isInside && whole.kind == Statement.REPEAT) {
                    join(whole.first, BACK - i);
                }
            }
        }

        private void join(int number, int next) {
            Statement part = statement(number);
            part.isInside = true;
            part.next = next;
        }

        /** The variables that a linked program is decided for. */
        int variables(Assertion before, Assertion after) {
            int bits = before.variables() | after.variables();
            for (int i = 0; i < count; i++) {
                if (statement(i).isInside) {
                    bits |= statement(i).variables();
                }
            }
            return bits;
        }
    }

    /** Goes through a program for all states of its first assertion; keeps what came of the last one. */
    private static final class Proof {
        static final char PROVED = 'p';

        private final Program program;
        private final Decider decider;
        private final State current = new State(PLACES);
        /** States that are still to go on: at most one for each statement on the way to the current one. */
        private final State[] waiting = new State[STATEMENTS + 1];
        private int waitingCount = 0;
        private final int[] came = new int[STATEMENTS];
        private final boolean[] isExpanded = new boolean[STATEMENTS];

        Assertion before = new Assertion();
        Assertion after = before;
        int root = NONE;
        private int variables = 0;
        int begun = 0;
        int lowestWrong = NONE;
        private boolean isWrong = false;
        private boolean isBroken = false;
        private boolean isLost = false;

        Proof(Program program, Decider decider) {
            this.program = program;
            this.decider = decider;
            for (int i = 0; i < waiting.length; i++) {
                waiting[i] = new State(PLACES);
            }
        }

        char end() {
            if (isWrong) {
                return 'w';
            }
            if (isBroken) {
                return 'i';
            }
            return isLost ? 'l' : PROVED;
        }

        int arrivals(int number) {
            return number >= 0 && number < came.length ? came[number] : 0;
        }

        void run(Assertion first, int statement, Assertion last) {
            before = first;
            root = statement;
            after = last;
            clear();
            program.link(root);
            variables = program.variables(before, after);
            decider.decide(before, variables);
            begun = decider.count;
            for (int i = 0; i < begun; i++) {
                goThrough(decider.row(i), root);
            }
            Statement loop = reachedLoop();
            for (int round = 0; round < STATEMENTS && loop != null && loop.invariant != null; round++) {
                decider.decide(loop.invariant, variables);
                int allowed = decider.count;
                for (int i = 0; i < allowed; i++) {
                    goThrough(decider.row(i), loop.looped(decider.row(i)));
                }
                loop = reachedLoop();
            }
        }

        private void clear() {
            lowestWrong = NONE;
            isWrong = false;
            isBroken = false;
            isLost = false;
            for (int i = 0; i < STATEMENTS; i++) {
                came[i] = 0;
                isExpanded[i] = false;
            }
        }

        /** A repeated statement to which a state came, each one once; null if there is no other one. */
        private Statement reachedLoop() {
            for (int i = 0; i < STATEMENTS; i++) {
                if (came[i] > 0 && !isExpanded[i] && program.statement(i).kind == Statement.REPEAT) {
                    isExpanded[i] = true;
                    return program.statement(i);
                }
            }
            return null;
        }

        private void goThrough(State begin, int start) {
            waitingCount = 0;
            await(begin, start);
            for (int turn = 0; turn < TURNS && waitingCount > 0; turn++) {
                int at = takeWaiting();
                for (int i = 0; i < STATEMENTS && at >= 0; i++) {
                    at = pass(at);
                }
                if (at == ENDED && !isLost) {
                    isLost = current.leftBehind(after) != 0;
                } else if (at <= BACK) {
                    checkInvariant(BACK - at);
                }
            }
        }

        private State await(State state, int next) {
            State added = waitingAt(waitingCount);
            if (added != current) {
                waitingCount++;
                added.copy(state);
                added.next = next;
            }
            return added;
        }

        private int takeWaiting() {
            waitingCount--;
            current.copy(waitingAt(waitingCount));
            return current.next;
        }

        private State waitingAt(int i) {
            return i >= 0 && i < waiting.length && waiting[i] != null ? waiting[i] : current;
        }

        /** Lets the current state pass a statement; answers where it goes on. */
        private int pass(int number) {
            Statement statement = program.statement(number);
            if (number >= 0 && number < came.length) {
                came[number]++;
            }
            switch (statement.kind) {
                case Statement.FOLLOW:
                    return statement.first;
                case Statement.CHOOSE:
                    return statement.chosen(current);
                case Statement.REPEAT:
                    checkInvariant(number);
                    return STOPPED;
                default:
                    return passSimple(statement, number);
            }
        }

        private int passSimple(Statement statement, int number) {
            if (statement.needsCell()) {
                int place = statement.target(current);
                int kind = current.kindAt(place);
                if (kind == State.NOTHING) {
                    isWrong = true;
                    markWrong(number);
                    return STOPPED;
                }
                if (kind == State.LIST) {
                    State longer = await(current, statement.next);
                    longer.open(place, true, State.LIST);
                    statement.act(longer);
                    current.open(place, false, State.LIST);
                }
            }
            statement.act(current);
            return statement.next;
        }

        private void checkInvariant(int number) {
            Assertion invariant = program.statement(number).invariant;
            if (invariant != null && current.leftBehind(invariant) != 0) {
                isBroken = true;
                markWrong(number);
            }
        }

        private void markWrong(int number) {
            lowestWrong = lowestWrong == NONE ? number : Math.min(lowestWrong, number);
        }
    }

    /** Runs a program on all heaps of its first assertion, and counts those that are witnesses against it. */
    private static final class Trial {
        private final Program program;
        private final Decider decider;
        private final Heaps heaps;
        int found = 0;
        int smallest = NONE;

        Trial(Program program, Decider decider, Heaps heaps) {
            this.program = program;
            this.decider = decider;
            this.heaps = heaps;
        }

        void search(Assertion before, int root, Assertion after) {
            found = 0;
            smallest = NONE;
            program.link(root);
            decider.decide(before, program.variables(before, after));
            heaps.begin();
            for (int turn = 0; turn < TURNS && heaps.advance(); turn++) {
                int cells = heaps.heap.atoms();
                if (isWitness(root, after)) {
                    found++;
                    smallest = smallest == NONE ? cells : Math.min(smallest, cells);
                }
            }
        }

        private boolean isWitness(int root, Assertion after) {
            State heap = heaps.heap;
            int at = root;
            for (int begun = 0; begun <= STATEMENTS; begun++) {
                at = leaveLoops(at);
                if (at == ENDED) {
                    return !heap.satisfies(after);
                }
                if (begun == STATEMENTS) {
                    return false;
                }
                Statement statement = program.statement(at);
                if (statement.needsCell() && heap.kindAt(statement.target(heap)) == State.NOTHING) {
                    return true;
                }
                at = begin(statement);
            }
            return false;
        }

        /** Goes back to the heads of loops, which are not begun anew, until a statement is to be begun. */
        private int leaveLoops(int at) {
            int next = at;
            for (int i = 0; i < STATEMENTS && next <= BACK; i++) {
                next = program.statement(BACK - next).looped(heaps.heap);
            }
            return next;
        }

        private int begin(Statement statement) {
            switch (statement.kind) {
                case Statement.FOLLOW:
                    return statement.first;
                case Statement.CHOOSE:
                    return statement.chosen(heaps.heap);
                case Statement.REPEAT:
                    return statement.looped(heaps.heap);
                default:
                    statement.act(heaps.heap);
                    return statement.next;
            }
        }
    }
}
