/** What each promise asks for: ordinary calls, the edges that the document names, and wrong ones. */
public final class PromiseTests extends Check {
    private static void newObject() {
        Heapwitness x = new Heapwitness();
        due("P1 states(0)", () -> x.states(0), INDEX);
        due("P1 prove(0, 0, 0)", () -> x.prove(0, 0, 0), INDEX);
        due("P1 follow(0, 1)", () -> x.follow(0, 1), INDEX);
        due("P1 allStates()", () -> x.allStates(), 0L);
        due("P1 provedShare()", () -> x.provedShare(), ARITHMETIC);
        due("P1 wrongAt()", () -> x.wrongAt(), NO_ELEMENT);
        due("P1 isSound()", () -> x.isSound(), true);
        due("P1 first assertion", () -> x.addAssertion(), 0);
        due("P1 first statement", () -> x.assign(1, 0), 0);
        due("P1 cameTo(0) without a proof", () -> x.cameTo(0), NO_ELEMENT);
        due("P1 cameTo(1) without a proof", () -> x.cameTo(1), INDEX);
    }

    private static void addingAssertions() {
        Heapwitness x = new Heapwitness();
        for (int i = 0; i < 10; i++) {
            int number = i;
            due("P2 addAssertion() no " + i, () -> x.addAssertion(), number);
        }
        due("P2 the 11th", () -> x.addAssertion(), STATE);
        due("P2 the 12th", () -> x.addAssertion(), STATE);
        due("P2 states(9)", () -> x.states(9), 1);
        due("P2 states(10)", () -> x.states(10), INDEX);
    }

    private static void addingFactsAndAtoms() {
        Heapwitness x = new Heapwitness();
        due("P3 no assertion, no variable", () -> x.addFact(0, true, 7, 7), INDEX);
        due("P4 no assertion, no variable", () -> x.addAtom(0, true, 7, 7), INDEX);
        x.addAssertion();
        for (int bad : new int[] {-1, 5, Integer.MAX_VALUE, Integer.MIN_VALUE}) {
            due("P3 addFact(0, true, " + bad + ", 0)", () -> x.addFact(0, true, bad, 0), ARGUMENT);
            due("P3 addFact(0, true, 0, " + bad + ")", () -> x.addFact(0, true, 0, bad), ARGUMENT);
            due("P4 addAtom(0, true, " + bad + ", 0)", () -> x.addAtom(0, true, bad, 0), ARGUMENT);
            due("P4 addAtom(0, true, 0, " + bad + ")", () -> x.addAtom(0, true, 0, bad), ARGUMENT);
            due("P3 addFact(" + bad + ", ..)", () -> x.addFact(bad, true, 0, 0), INDEX);
            due("P4 addAtom(" + bad + ", ..)", () -> x.addAtom(bad, true, 0, 0), INDEX);
        }
        for (int i = 1; i <= 6; i++) {
            int number = i;
            due("P3 fact no " + i, () -> x.addFact(0, true, 0, 0), number);
        }
        due("P3 the 7th fact", () -> x.addFact(0, true, 1, 2), STATE);
        due("P3 the 7th fact, no variable", () -> x.addFact(0, true, 1, 5), ARGUMENT);
        due("P3 nothing changed", () -> x.states(0), 1);
        for (int i = 1; i <= 4; i++) {
            int number = i;
            due("P4 atom no " + i, () -> x.addAtom(0, true, 4, 4), number);
        }
        due("P4 the 5th atom", () -> x.addAtom(0, false, 0, 0), STATE);
        due("P4 the 5th atom, no variable", () -> x.addAtom(0, false, -1, 0), ARGUMENT);
        due("P4 nothing changed", () -> x.states(0), 2);
    }

    private static void decidedStates() {
        due("P5 nothing", () -> statesOf(""), 1);
        due("P5 a variable that is itself", () -> statesOf("1=1"), 2);
        due("P5 a variable that is not itself", () -> statesOf("3#3"), 0);
        due("P5 two variables", () -> statesOf("1=1 2=2"), 5);
        due("P5 three variables", () -> statesOf("1=1 2=2 3=3"), 15);
        due("P5 four variables", () -> statesOf("1=1 2=2 3=3 4=4"), 52);
        due("P5 same", () -> statesOf("1=2"), 2);
        due("P5 unlike", () -> statesOf("1#2"), 3);
        due("P5 against each other", () -> statesOf("1=2 1#2"), 0);
        due("P5 a cell at nil", () -> statesOf("0.1"), 0);
        due("P5 a list from nil to nil", () -> statesOf("0-0"), 1);
        due("P5 a list from nil to a variable", () -> statesOf("0-1"), 1);
        due("P5 a cell", () -> statesOf("1.0"), 1);
        due("P5 a cell with itself", () -> statesOf("1.1"), 1);
        due("P5 a cell with another one", () -> statesOf("1.2"), 3);
        due("P5 the cell twice", () -> statesOf("1.0 1.0"), 0);
        due("P5 the list twice", () -> statesOf("1-0 1-0"), 1);
        due("P5 a cell and a list there", () -> statesOf("1.0 1-0"), 0);
        due("P5 a cell and a list that is left out there", () -> statesOf("1.2 1-2"), 1);
        due("P5 a list", () -> statesOf("1-0"), 2);
        due("P5 a list to a variable", () -> statesOf("1-2"), 4);
        // 1 nil: 2 nil or not; 1 not nil: 2 nil, at 1, outside, within
        due("P5 a list and a place", () -> statesOf("1-0 2=2"), 6);
        // 3 not at 1 or 2 can lie within, but not at the end
        due("P5 the end does not lie within", () -> statesOf("1-2 1#2 1#0 2#0 3#1 3#2 3#0"), 2);
        // 1 nil; one of the three others nil, two within or outside: 1 + 2 + 2; none nil: 1 + 3 + 6 + 6
        due("P5 all orders", () -> statesOf("1-0 1#2 1#3 1#4 2#3 2#4 3#4"), 1 + 3 * 5 + 16);
        due("P5 most of all", () -> statesOf("1-0 2=2 3=3 4=4"), 122);
        due("P5 a ring", () -> statesOf("1-2 2-1 1#2"), 1);
        due("P5 within one of two", () -> statesOf("1-2 2-1 1#2 3#1 3#2 3#0"), 3);
        due("P5 a place of a list that is left out", () -> statesOf("1-0 2-2 1#0 2#0 2#1"), 2);
    }

    private static void following() {
        Heapwitness x = new Heapwitness();
        int none = assertion(x, "1#1");
        int empty = assertion(x, "");
        int cell = assertion(x, "1.0");
        int list = assertion(x, "1-0");
        int two = assertion(x, "1-2 2-0");
        int full = assertion(x, "1#0 1-0");
        int ring = assertion(x, "1-2 2-1");
        due("P6 nothing holds", () -> x.follows(none, cell), true);
        due("P6 nothing follows", () -> x.follows(cell, none), false);
        due("P6 a list from a cell", () -> x.follows(cell, list), true);
        due("P6 a cell from a list", () -> x.follows(list, cell), false);
        due("P6 a cell from a list that is not empty", () -> x.follows(full, cell), false);
        due("P6 a list from two", () -> x.follows(two, list), true);
        due("P6 two from a list", () -> x.follows(list, two), false);
        due("P6 all cells are given", () -> x.follows(cell, empty), false);
        due("P6 the same", () -> x.follows(ring, ring), true);
        due("P6 a ring is no list to nil", () -> x.follows(ring, list), false);
        int[] all = {none, empty, cell, list, two, full, ring};
        for (int a : all) {
            for (int b : all) {
                due("P7 followsByHeaps(" + a + ", " + b + ")", () -> x.followsByHeaps(a, b), x.follows(a, b));
            }
            due("P6 follows(" + a + ", 7)", () -> x.follows(a, 7), INDEX);
            due("P6 follows(-1, " + a + ")", () -> x.follows(-1, a), INDEX);
            due("P7 followsByHeaps(" + a + ", 7)", () -> x.followsByHeaps(a, 7), INDEX);
            due("P7 followsByHeaps(-1, " + a + ")", () -> x.followsByHeaps(-1, a), INDEX);
            due("P8 against(" + a + ", 7)", () -> x.against(a, 7), INDEX);
            due("P8 against(-1, " + a + ")", () -> x.against(-1, a), INDEX);
            due("P9 left(" + a + ", 7)", () -> x.left(a, 7), INDEX);
            due("P9 left(-1, " + a + ")", () -> x.left(-1, a), INDEX);
        }
        due("P8 it follows", () -> x.against(cell, list), NO_ELEMENT);
        due("P8 the empty list is no cell", () -> x.against(list, cell), 0);
        due("P8 two cells are not one", () -> x.against(full, cell), 2);
        due("P8 the list does not go by 2", () -> x.against(list, two), 0);
        due("P8 a cell is not nothing", () -> x.against(cell, empty), 1);
        due("P8 a ring of two", () -> x.against(ring, empty), 2);
    }

    private static void leaving() {
        due("P9 all is left", () -> leftOf("1.0 2.0", ""), 2);
        due("P9 one is left", () -> leftOf("1.0 2.0", "2.0"), 1);
        due("P9 nothing is left", () -> leftOf("1.2 2.0", "1-0"), 0);
        due("P9 no states", () -> leftOf("1.0 1.0", "3.4"), 0);
        due("P9 a fact does not hold in some state", () -> leftOf("1.0", "2#0"), NO_ELEMENT);
        due("P9 a list is no cell", () -> leftOf("1#0 1-0", "1.0"), NO_ELEMENT);
        due("P9 a list can be empty", () -> leftOf("1.2 2-0", "2-0"), 1);
        due("P9 a list is parted by the other's variables", () -> leftOf("1-0", "2=2"), 2);
        due("P9 an atom is taken once", () -> leftOf("1.0 2.0", "1.0 1.0"), NO_ELEMENT);
        due("P9 the greatest of all states", () -> leftOf("1-0 2-0", ""), 2);
        due("P9 a list that is left out takes nothing", () -> leftOf("1.0", "2-2"), 1);
    }

    private static void statements() {
        Heapwitness x = new Heapwitness();
        due("P10 assign to nil", () -> x.assign(0, 1), ARGUMENT);
        due("P10 assign to 5", () -> x.assign(5, 1), ARGUMENT);
        due("P10 assign 5", () -> x.assign(1, 5), ARGUMENT);
        due("P10 assign -1", () -> x.assign(1, -1), ARGUMENT);
        due("P11 load to nil", () -> x.load(0, 1), ARGUMENT);
        due("P11 load to -1", () -> x.load(-1, 1), ARGUMENT);
        due("P11 load at 5", () -> x.load(1, 5), ARGUMENT);
        due("P12 store at 5", () -> x.store(5, 0), ARGUMENT);
        due("P12 store -1", () -> x.store(1, -1), ARGUMENT);
        due("P13 make at nil", () -> x.make(0), ARGUMENT);
        due("P13 make at 5", () -> x.make(5), ARGUMENT);
        due("P14 free at 5", () -> x.free(5), ARGUMENT);
        due("P14 free at -1", () -> x.free(-1), ARGUMENT);
        due("P10 assign", () -> x.assign(1, 0), 0);
        due("P11 load at nil", () -> x.load(4, 0), 1);
        due("P12 store at nil", () -> x.store(0, 0), 2);
        due("P13 make", () -> x.make(4), 3);
        due("P14 free at nil", () -> x.free(0), 4);
        due("P15 no first one", () -> x.follow(-1, 0), INDEX);
        due("P15 no second one", () -> x.follow(0, 5), INDEX);
        due("P15 the same", () -> x.follow(0, 0), PART);
        due("P15 follow", () -> x.follow(0, 1), 5);
        due("P15 a part, and none", () -> x.follow(0, 6), INDEX);
        due("P15 the first one is a part", () -> x.follow(1, 2), PART);
        due("P15 the second one is a part", () -> x.follow(2, 1), PART);
        due("P16 no variable, no statement", () -> x.choose(5, 0, 9, 9), ARGUMENT);
        due("P16 no other variable", () -> x.choose(0, -1, 2, 3), ARGUMENT);
        due("P16 no statement, a part", () -> x.choose(0, 0, 0, 9), INDEX);
        due("P16 no first statement", () -> x.choose(0, 0, 6, 2), INDEX);
        due("P16 a part", () -> x.choose(0, 0, 2, 0), PART);
        due("P16 the same", () -> x.choose(0, 0, 2, 2), PART);
        due("P16 choose", () -> x.choose(1, 1, 2, 3), 6);
        due("P17 no variable, no statement", () -> x.repeat(true, 1, 5, 9, 0), ARGUMENT);
        due("P17 no variable, but another one", () -> x.repeat(true, -1, 0, 9, 0), ARGUMENT);
        due("P17 no assertion, a part", () -> x.repeat(true, 1, 2, 0, 0), INDEX);
        x.addAssertion();
        due("P17 no statement", () -> x.repeat(true, 1, 2, 7, 0), INDEX);
        due("P17 no assertion", () -> x.repeat(true, 1, 2, 4, 1), INDEX);
        due("P17 a part", () -> x.repeat(true, 1, 2, 2, 0), PART);
        due("P17 repeat", () -> x.repeat(true, 1, 2, 4, 0), 7);
        due("P17 the part is one now", () -> x.repeat(true, 1, 2, 4, 0), PART);
        for (int i = 8; i < 40; i++) {
            int number = i;
            due("P10 statement no " + i, () -> x.assign(1, 2), number);
        }
        due("P10 the 41st", () -> x.assign(1, 2), STATE);
        due("P11 the 41st", () -> x.load(1, 2), STATE);
        due("P12 the 41st", () -> x.store(1, 2), STATE);
        due("P13 the 41st", () -> x.make(1), STATE);
        due("P14 the 41st", () -> x.free(1), STATE);
        due("P15 the 41st", () -> x.follow(38, 39), STATE);
        due("P16 the 41st", () -> x.choose(1, 2, 38, 39), STATE);
        due("P17 the 41st", () -> x.repeat(false, 1, 2, 39, 0), STATE);
        due("P10 the 41st, no variable", () -> x.assign(0, 2), ARGUMENT);
        due("P15 the 41st, a part", () -> x.follow(0, 39), PART);
        due("P16 the 41st, no statement", () -> x.choose(1, 2, 38, 40), INDEX);
        due("P17 the 41st, a part", () -> x.repeat(true, 1, 2, 4, 0), PART);
        due("P18 the last one", () -> x.prove(0, 39, 0), 'p');
    }

    /** A list is freed, cell by cell. */
    private static void freeingAList() {
        Heapwitness x = new Heapwitness();
        int list = assertion(x, "1-0");
        int empty = assertion(x, "");
        int full = assertion(x, "1-0 1#0");
        int load = x.load(2, 1);
        int free = x.free(1);
        int next = x.assign(1, 2);
        int part = inRow(x, load, free, next);
        int loop = x.repeat(false, 1, 0, part, list);
        int other = x.assign(3, 3);
        due("P18 a list is freed", () -> x.prove(list, loop, empty), 'p');
        due("P19 it did not go wrong", () -> x.wrongAt(), NO_ELEMENT);
        due("P20 to the loop", () -> x.cameTo(loop), 6);
        due("P20 to the part", () -> x.cameTo(part), 4);
        due("P20 to its first one", () -> x.cameTo(load), 4);
        due("P20 behind a load, each list with one cell or more", () -> x.cameTo(free), 8);
        due("P20 behind a free", () -> x.cameTo(next), 8);
        due("P20 not in the program", () -> x.cameTo(other), 0);
        due("P20 no statement", () -> x.cameTo(other + 1), INDEX);
        due("P20 no statement", () -> x.cameTo(-1), INDEX);
        due("P21 there is none", () -> x.witness(list, loop, empty), NO_ELEMENT);
        due("P22 there is none", () -> x.witnesses(list, loop, empty), 0);
        due("P26 after a proof", () -> x.isSound(), true);
        due("P23 one proof", () -> x.allStates(), 6L);
        due("P24 all", () -> x.provedShare(), 1f);
        due("P18 the last one does not follow", () -> x.prove(list, loop, full), 'l');
        due("P19 it did not go wrong", () -> x.wrongAt(), NO_ELEMENT);
        due("P21 the empty heap", () -> x.witness(list, loop, full), 0);
        due("P21 a cell", () -> x.witness(full, loop, full), 1);
        due("P22 all heaps", () -> x.witnesses(list, loop, full), 12);
        due("P26 after a proof that ended otherwise", () -> x.isSound(), true);
        due("P24 one of two", () -> x.provedShare(), 0.5f);
        due("P18 no first assertion", () -> x.prove(3, loop, list), INDEX);
        due("P18 no last assertion", () -> x.prove(list, loop, -1), INDEX);
        due("P18 no statement", () -> x.prove(list, other + 1, list), INDEX);
        due("P21 no first assertion", () -> x.witness(3, loop, list), INDEX);
        due("P21 no last assertion", () -> x.witness(list, loop, 3), INDEX);
        due("P21 no statement", () -> x.witness(list, -1, list), INDEX);
        due("P22 no first assertion", () -> x.witnesses(3, loop, list), INDEX);
        due("P22 no last assertion", () -> x.witnesses(list, loop, 3), INDEX);
        due("P22 no statement", () -> x.witnesses(list, 99, list), INDEX);
        due("P23 what throws is no proof", () -> x.allStates(), 12L);
        due("P24 what throws is no proof", () -> x.provedShare(), 0.5f);
        due("P20 what throws is no proof", () -> x.cameTo(part), 4);
        due("P18 no states", () -> x.prove(assertion(x, "1#1"), loop, full), 'p');
        due("P20 nothing came", () -> x.cameTo(loop), 0);
        due("P20 no loop without a state that comes", () -> x.cameTo(part), 0);
        due("P24 two of three", () -> x.provedShare(), 2f / 3f);
        due("P26 with a loop that nothing comes to", () -> x.isSound(), true);
        x.addAtom(list, false, 1, 0);
        due("P26 after a change", () -> x.isSound(), true);
    }

    /** What goes wrong, where, and how far it is gone through behind that. */
    private static void goingWrong() {
        Heapwitness x = new Heapwitness();
        int list = assertion(x, "1-0");
        int bad = assertion(x, "1.0");
        int empty = assertion(x, "");
        int load = x.load(1, 1);
        due("P18 nil has no cell", () -> x.prove(list, load, list), 'w');
        due("P19 there", () -> x.wrongAt(), load);
        due("P21 the empty list", () -> x.witness(list, load, list), 0);
        due("P22 the first cell is lost", () -> x.witnesses(list, load, list), 3);
        int loop = x.repeat(false, 1, 0, load, bad);
        int free = x.free(1);
        int whole = x.follow(loop, free);
        // the invariant follows from neither state, but is gone on with: its only state loads to nil
        due("P18 wrong comes first", () -> x.prove(list, whole, list), 'i');
        due("P19 the invariant", () -> x.wrongAt(), loop);
        due("P20 ahead of the loop alone", () -> x.cameTo(loop), 2);
        due("P20 in the loop", () -> x.cameTo(load), 1);
        due("P20 nothing is behind", () -> x.cameTo(free), 0);
        int again = x.load(1, 1);
        int badLoop = x.repeat(false, 1, 0, again, empty);
        due("P18 the part goes wrong", () -> x.prove(list, badLoop, empty), 'w');
        due("P19 the lowest one", () -> x.wrongAt(), again);
        due("P20 all states of the invariant", () -> x.cameTo(again), 1);
        int store = x.store(0, 1);
        int early = x.repeat(true, 0, 0, x.assign(1, 1), bad);
        int both = x.choose(1, 0, early, store);
        due("P18 wrong ahead of an invariant", () -> x.prove(list, both, empty), 'w');
        due("P19 the lowest of both", () -> x.wrongAt(), store);
        due("P20 one of two", () -> x.cameTo(early), 1);
        due("P20 the other one", () -> x.cameTo(store), 1);
        int late = x.store(0, 0);
        int either = x.choose(1, 0, x.repeat(true, 0, 0, x.assign(2, 2), bad), late);
        due("P18 wrong and an invariant", () -> x.prove(list, either, empty), 'w');
        due("P19 store comes ahead", () -> x.wrongAt(), late);
        due("P24 none is proved", () -> x.provedShare(), 0f);
        int lost = x.load(2, 2);
        int freed = inRow(x, x.make(2), x.free(2), lost);
        due("P18 what was freed has no cell", () -> x.prove(empty, freed, empty), 'w');
        due("P19 the load", () -> x.wrongAt(), lost);
    }

    /** An invariant with a lower number than what goes wrong is told, although a state goes wrong. */
    private static void lowestOfBoth() {
        Heapwitness x = new Heapwitness();
        int list = assertion(x, "1-0");
        int bad = assertion(x, "1.0");
        int loop = x.repeat(true, 0, 1, x.assign(1, 1), bad);
        int free = x.free(1);
        int freed = x.free(1);
        int whole = inRow(x, loop, free, freed);
        due("P18 behind the loop it goes wrong", () -> x.prove(list, whole, list), 'w');
        due("P19 the invariant is lower", () -> x.wrongAt(), loop);
        due("P20 the invariant alone is gone on with", () -> x.cameTo(free), 1);
        due("P20 a free that goes well", () -> x.cameTo(freed), 1);
    }

    /** Stores, makes and frees, and what they leave. */
    private static void changingHeaps() {
        Heapwitness x = new Heapwitness();
        int empty = assertion(x, "");
        int two = assertion(x, "1.2 2.0");
        int ring = assertion(x, "1-2 2-1 1#2");
        int list = assertion(x, "1-0");
        int cell = assertion(x, "1.0");
        int making = inRow(x, x.make(2), x.make(1), x.store(1, 2));
        due("P13 two are made", () -> x.prove(empty, making, two), 'p');
        due("P23 decided for the variables of all", () -> x.allStates(), 5L);
        due("P13 a cell that is lost is there", () -> x.witnesses(empty, making, cell), 5);
        int free = x.free(2);
        due("P14 the second one is freed", () -> x.prove(two, free, cell), 'l');
        int cut = x.store(1, 0);
        due("P12 a list is cut", () -> x.prove(list, cut, cell), 'w');
        due("P22 the rest is lost; the empty one goes wrong", () -> x.witnesses(list, cut, cell), 2);
        due("P21 the empty one is smallest", () -> x.witness(list, cut, cell), 0);
        int open = inRow(x, x.load(3, 2), x.store(2, 0), x.assign(2, 3));
        due("P18 a ring is opened", () -> x.prove(ring, open, list), 'l');
        int openToo = inRow(x, x.load(3, 2), x.store(2, 0));
        int opened = assertion(x, "1-2 2.0 3-1");
        int decided = x.states(ring);
        due("P5 a ring", () -> decided, 1);
        due("P18 a ring is opened behind 2", () -> x.prove(ring, openToo, opened), 'p');
        // 3 at nil, 1, 2, outside, within either: 4 + 2 states, with 4 * 4 + 2 * 8 heaps
        due("P22 of a ring with a place", () -> x.witnesses(ring, openToo, empty), 32);
        due("P21 of two cells at least", () -> x.witness(ring, openToo, empty), 2);
        due("P20 two for each list", () -> x.cameTo(openToo - 1), 12);
        int same = x.load(1, 1);
        due("P11 from itself", () -> x.prove(cell, same, cell), 'l');
        due("P10 garbage is no list", () -> x.prove(cell, x.assign(1, 0), empty), 'l');
        due("P26 after all", () -> x.isSound(), true);
    }

    /** A list at whose place a statement looks has one cell, or two and more. */
    private static void openingLists() {
        Heapwitness x = new Heapwitness();
        int full = assertion(x, "1#0 1-0");
        int rest = assertion(x, "1.2 2-0");
        int single = assertion(x, "1.2 2=0");
        int longer = assertion(x, "1.2 2#0 2-0");
        int empty = assertion(x, "");
        int cell = assertion(x, "1.1");
        int load = x.load(2, 1);
        due("P11 a rest that can be empty", () -> x.prove(full, load, rest), 'p');
        due("P11 a rest that is empty", () -> x.prove(full, load, single), 'l');
        due("P11 a rest that is not empty", () -> x.prove(full, load, longer), 'l');
        // of 2 + 2 + 2 + 4 heaps, for 2 at nil, at 1, outside and within, three have one cell
        due("P22 two cells", () -> x.witnesses(full, load, single), 7);
        due("P21 two cells", () -> x.witness(full, load, single), 2);
        due("P21 one cell", () -> x.witness(full, load, longer), 1);
        int free = x.free(1);
        due("P14 a rest that can be there", () -> x.prove(full, free, empty), 'l');
        due("P21 two cells", () -> x.witness(full, free, empty), 2);
        int store = x.store(1, 1);
        due("P12 a rest that can be there", () -> x.prove(full, store, cell), 'l');
        due("P22 two cells", () -> x.witnesses(full, store, cell), 1);
        due("P12 a rest that is named", () -> x.prove(full, x.follow(load, store), assertion(x, "1.1 2-0")), 'p');
        int twice = inRow(x, x.load(2, 1), x.load(2, 2));
        due("P11 behind one cell it goes wrong", () -> x.prove(full, twice, full), 'w');
        due("P19 with the second load", () -> x.wrongAt(), twice - 1);
        due("P22 the list of one cell", () -> x.witnesses(full, twice, full), 3);
        due("P18 a list of a cell and a rest", () -> x.prove(longer, x.load(2, 2), full), 'p');
    }

    /** A proof is not looked at again after a fact or an atom has been added, by a call that did not throw. */
    private static void changingBehindAProof() {
        Heapwitness x = new Heapwitness();
        int list = assertion(x, "1-0");
        int same = assertion(x, "1-0");
        int step = x.assign(2, 2);
        due("P18 nothing is changed", () -> x.prove(list, step, same), 'p');
        due("P26 before a fact", () -> x.isSound(), true);
        due("P3 a fact that never holds", () -> x.addFact(same, false, 1, 1), 1);
        due("P22 it has witnesses now", () -> x.witnesses(list, step, same), 12);
        due("P26 after a fact", () -> x.isSound(), true);
        int more = assertion(x, "1-0");
        due("P18 again", () -> x.prove(list, step, more), 'p');
        due("P26 before an atom", () -> x.isSound(), true);
        due("P4 an atom that is not there", () -> x.addAtom(more, false, 1, 1), 2);
        due("P26 after an atom", () -> x.isSound(), true);
    }

    /** Loops in loops, and behind one another: each is gone through once for all that come. */
    private static void loopsInLoops() {
        Heapwitness x = new Heapwitness();
        int both = assertion(x, "1-0 2-0");
        int empty = assertion(x, "");
        int one = assertion(x, "1-0");
        int load = x.load(3, 1);
        int inner = x.repeat(false, 1, 0, inRow(x, load, x.free(1), x.assign(1, 3)), both);
        int swap = inRow(x, x.assign(1, 2), x.assign(2, 0));
        int part = x.follow(inner, swap);
        int outer = x.repeat(false, 2, 0, part, both);
        int last = x.repeat(false, 1, 0, inRow(x, x.load(3, 1), x.free(1), x.assign(1, 3)), one);
        int whole = x.follow(outer, last);
        due("P18 two lists are freed", () -> x.prove(both, whole, empty), 'p');
        long begun = x.allStates();
        // 1 and 2 nil: 3 is nil or not; one of them nil: 4 for each; none: 3 at nil, 1, 2, outside, in one of both
        due("P23 all states of both", () -> begun, 2L + 4 + 4 + 6);
        due("P20 to the outer loop", () -> x.cameTo(outer), 16);
        due("P20 those with a second list", () -> x.cameTo(part), 10);
        due("P20 to the inner one from ahead", () -> x.cameTo(inner), 10);
        due("P20 those of its invariant with a first list", () -> x.cameTo(load), 10);
        due("P20 behind it, without a first list", () -> x.cameTo(swap), 6);
        due("P20 to the last one", () -> x.cameTo(last), 6);
        // 2 and 3 at nil or 1: 4; at one other place, outside or within: 5 * 2; at two other ones: 5
        due("P20 into the last one, for 2 at all places", () -> x.cameTo(last - 1), 19);
        due("P22 no witness", () -> x.witnesses(both, whole, empty), 0);
        due("P26 with loops in loops", () -> x.isSound(), true);
        int unreached = x.choose(0, 0, x.assign(4, 4), x.repeat(true, 0, 0, x.store(0, 0), both));
        due("P18 what nothing comes to", () -> x.prove(empty, unreached, empty), 'p');
        due("P20 what nothing comes to", () -> x.cameTo(unreached - 1), 0);
        due("P20 nor into it", () -> x.cameTo(unreached - 2), 0);
        int never = assertion(x, "0.0");
        int forever = x.repeat(true, 4, 4, x.assign(4, 4), both);
        due("P18 nothing comes behind", () -> x.prove(both, forever, never), 'p');
        due("P21 it does not end", () -> x.witness(both, forever, never), NO_ELEMENT);
        due("P26 without an end", () -> x.isSound(), true);
    }

    /** A walk along a list of two cells, with a part of 19 statements a cell. */
    private static int longWalk(Heapwitness x, int invariant) {
        int[] row = new int[10];
        row[0] = x.load(1, 1);
        for (int i = 1; i < row.length; i++) {
            row[i] = x.assign(1, 1);
        }
        return x.repeat(false, 1, 0, inRow(x, row), invariant);
    }

    private static void fortyStatements() {
        Heapwitness x = new Heapwitness();
        int list = assertion(x, "1-0");
        int never = assertion(x, "0.0");
        int walk = longWalk(x, list);
        due("P22 at most 1 + 2 * 19 statements", () -> x.witnesses(list, walk, never), 3);
        int fortieth = x.choose(0, 0, walk, x.assign(1, 1));
        due("P22 ends with the 40th", () -> x.witnesses(list, fortieth, never), 3);
        int tooLate = x.choose(1, 1, fortieth, x.assign(1, 1));
        due("P22 one needs 41", () -> x.witnesses(list, tooLate, never), 2);
        due("P21 the smallest one", () -> x.witness(list, tooLate, never), 0);
        int full = assertion(x, "1#0 1-0");
        due("P22 not empty", () -> x.witnesses(full, tooLate, never), 1);
        due("P21 not empty", () -> x.witness(full, tooLate, never), 1);

        Heapwitness y = new Heapwitness();
        int cell = assertion(y, "1.0");
        int none = assertion(y, "0.0");
        int[] row = new int[18];
        for (int i = 0; i < row.length; i++) {
            row[i] = y.assign(2, 2);
        }
        row[17] = y.load(1, 1);
        // 1 + 35 for the first round; 17 statements begin the second one, then the 18 of the row
        int once = y.repeat(true, 0, 0, inRow(y, row), none);
        due("P22 wrong too late", () -> y.witnesses(cell, once, none), 0);

        Heapwitness z = new Heapwitness();
        int one = assertion(z, "1.0");
        int nothing = assertion(z, "0.0");
        int[] steps = new int[10];
        for (int i = 0; i < steps.length; i++) {
            steps[i] = i == 9 ? z.load(1, 1) : z.assign(1, 1);
        }
        // 1 + 19 + 19: the second load is the 39th
        int loop = z.repeat(true, 0, 0, inRow(z, steps), nothing);
        due("P22 wrong with the 39th", () -> z.witnesses(one, loop, nothing), 1);
        int at40 = z.choose(0, 0, loop, z.assign(1, 1));
        due("P22 wrong with the 40th", () -> z.witnesses(one, at40, nothing), 1);
        int at41 = z.choose(0, 0, at40, z.assign(1, 1));
        due("P22 wrong with the 41st", () -> z.witnesses(one, at41, nothing), 0);
        due("P21 wrong with the 41st", () -> z.witness(one, at41, nothing), NO_ELEMENT);
    }

    private static void figures() {
        due("P25 no states", () -> meanOf("1#1"), ARITHMETIC);
        due("P25 nothing", () -> meanOf(""), 0.0);
        due("P25 a cell", () -> meanOf("1.0"), 1.0);
        due("P25 a list", () -> meanOf("1-0"), 0.5);
        due("P25 a list that is parted", () -> meanOf("1-0 2=2"), 5.0 / 6.0);
        due("P25 no assertion", () -> new Heapwitness().meanAtoms(-1), INDEX);
        Heapwitness x = new Heapwitness();
        int some = assertion(x, "1.2");
        int step = x.assign(1, 1);
        for (int i = 1; i <= 7; i++) {
            x.prove(some, step, i == 7 ? assertion(x, "") : some);
            long sum = 3L * i;
            due("P23 " + i + " proofs", () -> x.allStates(), sum);
        }
        due("P24 six of seven", () -> x.provedShare(), 6f / 7f);
        due("P26 at last", () -> x.isSound(), true);
    }

    public static void main(String[] args) {
        newObject();
        addingAssertions();
        addingFactsAndAtoms();
        decidedStates();
        following();
        leaving();
        statements();
        freeingAList();
        goingWrong();
        lowestOfBoth();
        changingHeaps();
        openingLists();
        changingBehindAProof();
        loopsInLoops();
        fortyStatements();
        figures();
        tell();
    }
}
