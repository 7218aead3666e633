/**
 * The document's sentences that name a boundary case, in its order, each with answers found by hand:
 * what is too small, too large, empty, full, at nil, at itself, the last that fits and the one after it.
 */
public final class EdgeTests extends Check {

    // ---- Heaps

    /** "0 stands for nil wherever a variable is named." */
    private static void nilIsNamed() {
        due("facts: nil is nil", () -> statesOf("0=0"), 1);
        due("facts: nil is not unlike itself", () -> statesOf("0#0"), 0);
        due("facts: a variable is nil", () -> statesOf("1=0"), 1);
        due("facts: nil is a variable", () -> statesOf("0=4"), 1);
        due("facts: a variable is not nil", () -> statesOf("1#0"), 1);
        due("atoms: a cell with the value nil", () -> statesOf("1.0"), 1);
        due("atoms: a list to nil", () -> statesOf("4-0"), 2);
        Heapwitness x = new Heapwitness();
        int any = assertion(x, "1=1");
        int nil = assertion(x, "1=0");
        int cell = assertion(x, "1.1");
        int nilCell = assertion(x, "1.0");
        due("assign nil", () -> x.prove(any, x.assign(1, 0), nil), 'p');
        due("load at nil", () -> x.prove(any, x.load(1, 0), any), 'w');
        due("store at nil", () -> x.prove(any, x.store(0, 1), any), 'w');
        due("free at nil", () -> x.prove(any, x.free(0), any), 'w');
        due("store nil", () -> x.prove(cell, x.store(1, 0), nilCell), 'p');
        due("choose with nil", () -> x.prove(any, x.choose(0, 1, x.assign(1, 1), x.assign(1, 0)), nil), 'p');
        due("choose with nil and nil", () -> x.prove(any, x.choose(0, 0, x.assign(1, 0), x.free(0)), nil), 'p');
        due("repeat with nil", () -> x.prove(any, x.repeat(false, 0, 1, x.assign(1, 0), any), nil), 'p');
        due("repeat with nil and nil", () -> x.prove(any, x.repeat(false, 0, 0, x.free(0), any), any), 'p');
    }

    /** "A place without a cell can be the value of variables and cells, too." */
    private static void placesWithoutCells() {
        due("a variable at such a place, in the empty heap", () -> followsFrom("1#0", ""), true);
        due("a cell with such a value", () -> followsFrom("1.2 2#0 1#2", "1.2"), true);
        due("a list that ends there", () -> followsFrom("1.2 2#0 1#2", "1-2"), true);
        due("nil, itself, or such a place", () -> statesOf("1.2"), 3);
        Heapwitness x = new Heapwitness();
        int any = assertion(x, "1.2 2#0 1#2 3.3");
        due("what is stored can be one", () -> x.prove(any, x.store(3, 2), assertion(x, "1.2 3.2")), 'p');
        due("what is loaded can be one", () -> x.prove(any, x.load(3, 1), assertion(x, "1.3 1#3 3#0")), 'l');
        due("no cell is there", () -> x.prove(any, x.follow(x.load(3, 1), x.load(3, 3)), any), 'w');
    }

    // ---- Assertions

    /** "At most 10 assertions are numbered from 0 .. at most 6 facts .. and at most 4 atoms." */
    private static void mostOfAssertions() {
        Heapwitness x = new Heapwitness();
        for (int i = 0; i < 9; i++) {
            x.addAssertion();
        }
        due("the 10th assertion", () -> x.addAssertion(), 9);
        due("the 11th assertion", () -> x.addAssertion(), STATE);
        for (int i = 1; i <= 5; i++) {
            due("fact " + i, () -> x.addFact(9, true, 0, 0), i);
        }
        due("five facts hold", () -> x.states(9), 1);
        due("the 6th fact", () -> x.addFact(9, false, 0, 1), 6);
        due("the 6th fact counts", () -> x.follows(9, 8), true);
        due("the 6th fact is decided", () -> x.follows(8, 9), false);
        due("the 7th fact", () -> x.addFact(9, true, 2, 2), STATE);
        due("the 7th fact names nothing", () -> x.states(9), 1);
        for (int i = 2; i <= 4; i++) {
            x.addAtom(9, false, i, 0);
        }
        due("the 4th atom", () -> x.addAtom(9, true, 1, 0), 4);
        due("the 4th atom counts", () -> x.meanAtoms(9), 4.0);
        due("the 5th atom", () -> x.addAtom(9, false, 0, 0), STATE);
        due("the 5th atom is not there", () -> x.states(9), 1);
        due("another assertion has room", () -> x.addFact(0, true, 0, 0), 1);
        due("another assertion has room for atoms", () -> x.addAtom(0, true, 0, 0), 1);
        due("6 facts, of which the last does not hold", () -> statesOf("0=0 0=0 0=0 0=0 0=0 0#0"), 0);
        due("6 facts that hold", () -> statesOf("0=0 0=0 0=0 0=0 0=0 0=0"), 1);
        due("4 atoms, of which the last is nowhere", () -> statesOf("1.0 2.0 3.0 0.0"), 0);
        due("4 atoms", () -> statesOf("1.0 2.0 3.0 4.0"), 1);
    }

    /** "It holds .. if all of its facts do, and the cells of the heap can be given to its atoms" */
    private static void emptyAssertion() {
        due("no facts and atoms: the empty heap", () -> statesOf(""), 1);
        due("it follows from itself", () -> followsFrom("", ""), true);
        due("it follows by heaps", () -> followsByHeapsFrom("", ""), true);
        due("nothing is against it", () -> againstOf("", ""), NO_ELEMENT);
        due("nothing is left", () -> leftOf("", ""), 0);
        due("its mean", () -> meanOf(""), 0.0);
        due("a cell is not given", () -> followsFrom("1.0", ""), false);
        due("a cell is not given, by heaps", () -> followsByHeapsFrom("1.0", ""), false);
        due("a heap of one cell", () -> againstOf("1.0", ""), 1);
        due("a heap of no cell", () -> againstOf("", "1.0"), 0);
        due("a list without cells", () -> followsFrom("1-0 1=0", ""), true);
        due("all facts hold", () -> followsFrom("1=2 2=3", "1=3 1=2 2=3 3=1"), true);
        due("one fact does not", () -> followsFrom("1=2 2=3", "1=3 1=2 2=3 3#1"), false);
    }

    /** "each cell to one atom, such that each atom gets just what it asks for" */
    private static void cellsAreGivenOnce() {
        due("a cell to two atoms", () -> followsFrom("1.0", "1.0 1.0"), false);
        due("a cell to two atoms of two names", () -> followsFrom("1.0 1=2", "1.0 2.0"), false);
        due("a cell to two lists", () -> followsFrom("1.0", "1-0 1-0"), false);
        due("a cell to a cell and a list", () -> followsFrom("1.2 2.0", "1-0 2.0"), false);
        due("a cell to no atom", () -> followsFrom("1.0 2.0", "1.0"), false);
        due("each cell to one", () -> followsFrom("1.0 2.0", "2.0 1.0"), true);
        due("no cells to two lists", () -> followsFrom("1=0", "1-0 1-0"), true);
        due("the other value", () -> followsFrom("1.2 2#0", "1.0"), false);
        due("the other place", () -> followsFrom("1.0 2#1", "2.0"), false);
        due("the same by another name", () -> followsFrom("1.2 2=3", "1.3"), true);
        due("a cell with its own place", () -> followsFrom("1.1", "1.1"), true);
        due("a cell with its own place has not nil", () -> followsFrom("1.1", "1.0"), false);
        due("a cell at nil", () -> followsFrom("1=0", "1.1"), false);
        due("two cells for one", () -> followsFrom("1.2 2.0", "1.0"), false);
        due("two cells for one, although a list", () -> againstOf("1-0 1#0", "1.0"), 2);
    }

    /** "A list x y asks for nothing if x is y" */
    private static void listsOfNothing() {
        due("from nil to nil", () -> followsFrom("", "0-0"), true);
        due("from a variable to itself", () -> followsFrom("1#0", "1-1"), true);
        due("from one to the same", () -> followsFrom("1=2 1#0", "2-1"), true);
        due("from nil to a variable that is nil", () -> followsFrom("1=0", "0-1"), true);
        due("from nil to a place", () -> followsFrom("1#0", "0-1"), false);
        due("from nil to a place is nowhere", () -> statesOf("0-1 1#0"), 0);
        due("it does not take a cell there", () -> followsFrom("1.1", "1-1"), false);
        due("the cell is against it", () -> againstOf("1.1", "1-1"), 1);
        due("the cell is left", () -> leftOf("1.1", "1-1"), 1);
        due("otherwise it asks for cells", () -> followsFrom("1#2", "1-2"), false);
        due("a heap without cells is against it", () -> againstOf("1#2", "1-2"), 0);
        due("four of them", () -> statesOf("0-0 0-0 0-0 0-0"), 1);
    }

    /** "that of the last one is y, where y is none of these places" */
    private static void listsEnd() {
        due("the list takes the first cell of a ring alone", () -> leftOf("1.2 2.1", "1-2"), 1);
        due("a ring is no list to itself", () -> leftOf("1.2 2.1", "1-1"), 2);
        due("a ring of one is no list to nil", () -> followsFrom("1.1", "1-0"), false);
        due("a ring of two is no list to nil", () -> followsFrom("1.2 2.1", "1-0"), false);
        due("a list does not go on behind its end", () -> followsFrom("1.2 2.3 3.0", "1-2"), false);
        due("what is behind its end is left", () -> leftOf("1.2 2.3 3.0", "1-2"), 2);
        due("a list that leads into a ring", () -> followsFrom("1.2 2.3 3.2", "1-2 2-3 3-2"), true);
        due("a list that leads into a ring has no end", () -> leftOf("1.2 2.3 3.2", "1-0"), NO_ELEMENT);
        due("a list of one cell", () -> followsFrom("1.0", "1-0"), true);
        due("a list of four cells", () -> followsFrom("1.2 2.3 3.4 4.0", "1-0"), true);
        due("a list of four lists", () -> followsFrom("1-2 2-3 3-4 4-0", "1-0"), true);
        due("parts that can meet again", () -> followsFrom("1-2 2-3", "1-3"), false);
        due("they meet again with 1 at 3, of one cell each", () -> againstOf("1-2 2-3", "1-3"), 2);
        due("3 can lie on the way to 2", () -> followsFrom("1-2 2-3 1#2 1#3 2#3", "1-3"), false);
        due("nothing lies there where a cell is", () -> followsFrom("1-2 2-3 3.4", "1-3 3.4"), true);
        due("nor nil", () -> followsFrom("1-2 2-0", "1-0"), true);
    }

    // ---- States

    /** "each atom begins at a place and not at nil, unless it is a list x y with the same x and y" */
    private static void atomsBegin() {
        due("a cell at nil", () -> statesOf("0.1"), 0);
        due("a cell at a variable that is nil", () -> statesOf("1.2 1=0"), 0);
        due("a list at nil", () -> statesOf("1-2 1=0"), 1);
        due("a list at nil to a place", () -> statesOf("1-2 1=0 2#0"), 0);
        due("a list that is left out is not counted", () -> meanOf("1-2 1=2"), 0.0);
        due("a list that is left out leaves its place", () -> statesOf("1.0 1-1"), 1);
        due("and the cell there", () -> meanOf("1.0 1-1"), 1.0);
        due("two cells at one place", () -> statesOf("1.0 2.0 1=2"), 0);
        due("two lists at one place", () -> statesOf("1-0 2-0 1=2 1#0"), 0);
        due("two lists at nil", () -> statesOf("1-0 2-0 1=2"), 1);
        due("a cell and a list at one place", () -> statesOf("1.0 2-0 1=2"), 0);
        due("two lists from one variable, of which one is left out", () -> statesOf("1-2 1-3"), 2 + 2 + 2);
    }

    /** "lists that are not left out have one cell or more" */
    private static void listsHaveCells() {
        due("a list that is not left out has a cell", () -> followsFrom("1-0 1#0", ""), false);
        due("one cell is enough", () -> againstOf("1-0 1#0", ""), 1);
        due("each of two", () -> againstOf("1-0 2-0 1#0 2#0", ""), 2);
        due("it is not just one", () -> followsFrom("1-0 1#0", "1.0"), false);
        due("each of the parted ones", () -> againstOf("1-2 2-3 3-4 4-0 1#0 1#2 1#3 1#4 2#3 2#4", ""), 2);
        due("four lists that are not left out", () -> againstOf("1-2 2-3 3-4 4-0 4#0 3#4 2#3 1#2 1#3 1#4", ""), 4);
        due("a mean of lists that are there", () -> meanOf("1-0 1#0"), 1.0);
    }

    /** "each named place .. can lie outside, or within one of the lists, behind its first cell and not at the end" */
    private static void placesLieWithin() {
        due("nil, its first cell, outside, or within", () -> statesOf("1-0 1#0 2=2"), 4);
        due("nothing lies within a cell", () -> statesOf("1.0 2=2"), 3);
        due("where an atom begins nothing else is", () -> statesOf("1-0 2.0"), 2);
        due("not at its own end", () -> statesOf("1-2 1#2"), 2);
        due("what is not its end can be within", () -> statesOf("1-2 1#2 3=3"), 4 + 5);
        due("the end of one list within the other", () -> statesOf("1-2 3-0 1#0 1#2 2#0 3#0"), 3);
        due("the ends of two lists within each other", () -> statesOf("1-2 3-4 1#2 1#4 3#2 3#4 2#4"), 2 * 2 + 2 + 2);
        due("no lists", () -> statesOf("1=1 2=2 3=3 4=4"), 52);
        // two: both outside, each one within, both within in two orders: 5; 3 at nil: 2
        due("two within one, in both orders", () -> statesOf("1-0 1#0 1#2 1#3 2#3 2#0"), 5 + 2);
        // 1 nil: 2; 2 nil: 3 and 4 at one place or two; otherwise one, two, or three places
        due("three within one", () -> statesOf("1-0 1#2 1#3 1#4 2#3 2#4"), 2 + 2 + 5 + 2 + 5 + 5 + 5 + 16);
    }

    /** "a list is parted there into two, each with one cell or more" */
    private static void listsAreParted() {
        due("the mean of 0, 0 and 1, 1, 1, 2", () -> meanOf("1-0 2=2"), 5.0 / 6.0);
        due("two lists are left of one", () -> leftOf("1-0", "2=2"), 2);
        due("three lists are left of one", () -> leftOf("1-0", "2=2 3=3"), 3);
        due("four lists are left of one", () -> leftOf("1-0", "2=2 3=3 4=4"), 4);
        due("one is left without names", () -> leftOf("1-0", ""), 1);
        due("both parts together", () -> leftOf("1-0", "2=2 1-0"), 0);
        Heapwitness x = new Heapwitness();
        int full = assertion(x, "1-0 1#0 1#2 2#0");
        int never = assertion(x, "1#1");
        // 2 outside: a list of 1 or 2 cells; 2 within: two such lists
        due("as many heaps as lengths", () -> x.witnesses(full, x.assign(1, 1), never), 2 + 4);
    }

    /** "What is not named and lies within a list is unlike all that is named." */
    private static void unnamedIsUnlike() {
        Heapwitness x = new Heapwitness();
        int full = assertion(x, "1-0 1#0 3#0 3#1");
        int same = x.assign(2, 2);
        int unlike = x.assign(3, 3);
        int choice = x.choose(2, 3, same, unlike);
        int whole = x.follow(x.load(2, 1), choice);
        x.prove(full, whole, assertion(x, ""));
        // 2 at nil, 1 or 3: 3 times 3 outside or within; otherwise outside and outside, in and out, two orders: 5
        due("two of each list", () -> x.cameTo(choice), 2 * 11);
        due("behind the first cell is 3", () -> x.cameTo(same), 3 + 1 + 1);
        due("otherwise it is not", () -> x.cameTo(unlike), 17);
    }

    // ---- Following

    /** "An assertion follows .. if it holds for all variables and heaps for which the other one holds." */
    private static void followingFromNothing() {
        due("from what never holds", () -> followsFrom("1#1", "0.0"), true);
        due("from what never holds, by heaps", () -> followsByHeapsFrom("1#1", "0.0"), true);
        due("nothing is against it", () -> againstOf("1#1", "0.0"), NO_ELEMENT);
        due("nothing is left of no states", () -> leftOf("1#1", "0.0"), 0);
        due("what never holds from itself", () -> followsFrom("1#1", "1#1"), true);
        due("what never holds from nothing", () -> followsFrom("", "1#1"), false);
        due("what never holds from nothing, by heaps", () -> followsByHeapsFrom("", "1#1"), false);
        due("against it is the empty heap", () -> againstOf("", "1#1"), 0);
        due("it is left in no state", () -> leftOf("", "1#1"), NO_ELEMENT);
        due("a variable that is named by the other one alone", () -> followsFrom("", "2=0"), false);
        due("and by heaps", () -> followsByHeapsFrom("", "2=0"), false);
        due("a variable that is what it likes", () -> followsFrom("", "2=2"), true);
        due("an assertion and itself", () -> {
            Heapwitness x = new Heapwitness();
            int one = assertion(x, "1-2 2-0 3.4");
            return x.follows(one, one) && x.followsByHeaps(one, one) && x.left(one, one) == 0;
        }, true);
    }

    // ---- Programs

    /** "At most 40 statements are numbered from 0" */
    private static void mostStatements() {
        Heapwitness x = new Heapwitness();
        int empty = assertion(x, "");
        due("the first statement", () -> x.make(1), 0);
        for (int i = 1; i < 39; i++) {
            x.make(1);
        }
        due("no statement 39", () -> x.prove(empty, 39, empty), INDEX);
        due("the 40th statement", () -> x.free(0), 39);
        due("it is a program", () -> x.prove(empty, 39, empty), 'w');
        due("where it goes wrong", () -> x.wrongAt(), 39);
        due("how many came to it", () -> x.cameTo(39), 1);
        due("no statement 40", () -> x.prove(empty, 40, empty), INDEX);
        due("the 41st statement", () -> x.free(0), STATE);
        due("the 41st statement, of two", () -> x.follow(38, 39), STATE);
        due("the first one is a program", () -> x.prove(empty, 0, empty), 'l');
        for (int kind = 0; kind < 8; kind++) {
            int last = kind;
            Heapwitness y = new Heapwitness();
            y.addAssertion();
            for (int i = 0; i < 39; i++) {
                y.assign(1, 1);
            }
            due("the 40th of kind " + kind, () -> anyStatement(y, last), 39);
            due("the 41st of kind " + kind, () -> anyStatement(y, last), last < 5 ? STATE : PART);
        }
    }

    private static int anyStatement(Heapwitness x, int kind) {
        switch (kind) {
            case 0: return x.assign(4, 0);
            case 1: return x.load(4, 0);
            case 2: return x.store(0, 4);
            case 3: return x.make(4);
            case 4: return x.free(4);
            case 5: return x.follow(37, 38);
            case 6: return x.choose(4, 0, 37, 38);
            default: return x.repeat(false, 4, 0, 38, 0);
        }
    }

    /** "each can be a part of one other statement at most, which has a greater number" */
    private static void partsOfOne() {
        Heapwitness x = new Heapwitness();
        int empty = assertion(x, "");
        due("nothing is a part", () -> x.follow(0, 0), INDEX);
        for (int i = 0; i < 6; i++) {
            x.assign(1, 0);
        }
        due("a part of itself", () -> x.follow(0, 6), INDEX);
        due("a part of itself, first", () -> x.follow(6, 0), INDEX);
        due("a choice of itself", () -> x.choose(1, 1, 6, 0), INDEX);
        due("a loop of itself", () -> x.repeat(true, 1, 1, 6, empty), INDEX);
        due("twice the same", () -> x.follow(1, 1), PART);
        due("twice the same to choose", () -> x.choose(1, 1, 1, 1), PART);
        due("follow", () -> x.follow(0, 1), 6);
        due("choose", () -> x.choose(1, 1, 2, 3), 7);
        due("repeat", () -> x.repeat(true, 1, 1, 4, empty), 8);
        for (int i = 0; i < 5; i++) {
            int part = i;
            due("to follow, a part: " + i, () -> x.follow(part, 5), PART);
            due("to be followed by a part: " + i, () -> x.follow(5, part), PART);
            due("to choose a part: " + i, () -> x.choose(1, 1, part, 5), PART);
            due("to choose a part otherwise: " + i, () -> x.choose(1, 1, 5, part), PART);
            due("to repeat a part: " + i, () -> x.repeat(false, 1, 1, part, empty), PART);
            due("a part is a program, too: " + i, () -> x.prove(empty, part, empty), 'p');
        }
        due("what was refused is no part", () -> x.follow(5, 6), 9);
        due("wholes of parts", () -> x.follow(7, 8), 10);
        due("whatever has not been a part", () -> x.follow(9, 10), 11);
    }

    /** "each of these goes wrong if there is no such cell" */
    private static void noSuchCell() {
        for (int kind = 0; kind < 3; kind++) {
            String what = new String[] {"load", "store", "free"}[kind];
            Heapwitness x = new Heapwitness();
            int empty = assertion(x, "");
            int nil = assertion(x, "1=0");
            int place = assertion(x, "1#0 2.0");
            int cell = assertion(x, "1.0 2.0");
            int ring = assertion(x, "1.1");
            int list = assertion(x, "1-0");
            int at1 = atCell(x, kind, 1);
            int atNil = atCell(x, kind, 0);
            int freed = x.follow(x.free(1), atCell(x, kind, 1));
            due(what + " at a cell", () -> x.prove(cell, at1, empty), 'l');
            due(what + " at a cell with itself", () -> x.prove(ring, at1, empty), kind == 2 ? 'p' : 'l');
            due(what + " at nil", () -> x.prove(nil, at1, empty), 'w');
            due(what + " at 0", () -> x.prove(cell, atNil, empty), 'w');
            due(what + " at a place that can have no cell", () -> x.prove(place, at1, empty), 'w');
            due(what + " at a list that can have none", () -> x.prove(list, at1, empty), 'w');
            due(what + " where it was freed", () -> x.prove(cell, freed, empty), 'w');
            due(what + " goes wrong there", () -> x.wrongAt(), freed - 1);
            due(what + " in a heap where it was freed", () -> x.witness(cell, freed, empty), 2);
            due(what + " in a heap at nil", () -> x.witness(nil, at1, empty), 0);
            due(what + " in a heap at 0", () -> x.witness(cell, atNil, empty), 2);
            // 1 is where 2 is, or not: then it goes wrong, for 3 at nil, 1, 2, or none of these
            int alone = kind == 0 ? 4 : kind == 1 ? 1 : 2;
            due(what + " in heaps without a cell", () -> x.witnesses(place, at1, assertion(x, "2.0")), alone);
        }
    }

    /** Loads 2, stores nil or frees, at the cell of a variable. */
    private static int atCell(Heapwitness x, int kind, int variable) {
        return kind == 0 ? x.load(3, variable) : kind == 1 ? x.store(variable, 0) : x.free(variable);
    }

    /** "To make gives a variable a new place, which nothing has had so far, with a cell with the value nil." */
    private static void newPlaces() {
        Heapwitness x = new Heapwitness();
        int empty = assertion(x, "");
        int cell = assertion(x, "1.0");
        int never = assertion(x, "0.0");
        due("its value is nil", () -> x.prove(empty, x.make(1), cell), 'p');
        due("its value is nil in a heap", () -> x.witnesses(empty, x.make(1), cell), 0);
        int wrong = x.free(0);
        int again = x.choose(1, 2, wrong, x.assign(1, 1));
        int whole = inRow(x, x.assign(2, 1), x.free(1), x.make(1), again);
        due("it is not where a cell was freed", () -> x.prove(cell, whole, cell), 'p');
        due("nobody comes there", () -> x.cameTo(wrong), 0);
        due("nor in a heap", () -> x.witnesses(cell, whole, cell), 0);
        due("that runs to its end", () -> x.witnesses(cell, whole, never), 3);
        int value = assertion(x, "1.2 2#0 1#2");
        int two = inRow(x, x.make(2), x.load(3, 1), x.choose(2, 3, x.free(0), x.store(1, 2)));
        due("it is not at a value without a cell", () -> x.prove(value, two, assertion(x, "1.2 2.0")), 'p');
        due("nor in a heap without one", () -> x.isSound(), true);
        int both = inRow(x, x.make(1), x.make(2));
        due("two are unlike", () -> x.prove(empty, both, assertion(x, "1.0 2.0")), 'p');
        due("what had the first one is there still", () -> x.prove(empty, x.follow(x.make(1), x.make(1)), cell), 'l');
    }

    /** "one of two can be chosen .. and one can be repeated as long as two variables are the same, or .. not" */
    private static void choosingAndRepeating() {
        Heapwitness x = new Heapwitness();
        int same = assertion(x, "1=2");
        int unlike = assertion(x, "1#2");
        int either = assertion(x, "1=1 2=2");
        int first = x.assign(1, 1);
        int second = x.assign(2, 2);
        int choice = x.choose(1, 2, first, second);
        x.prove(same, choice, same);
        due("the same: the first one", () -> x.cameTo(first), 2);
        due("the same: not the second one", () -> x.cameTo(second), 0);
        x.prove(unlike, choice, unlike);
        due("unlike: not the first one", () -> x.cameTo(first), 0);
        due("unlike: the second one", () -> x.cameTo(second), 3);
        due("itself: the first one", () -> x.prove(either, x.choose(1, 1, x.assign(1, 2), x.free(0)), same), 'p');
        int part = x.assign(1, 1);
        int whileSame = x.repeat(true, 1, 2, part, either);
        due("as long as they are the same: unlike behind it", () -> x.prove(same, whileSame, unlike), 'p');
        due("the part for the same ones", () -> x.cameTo(part), 2);
        int partUnlike = x.assign(1, 1);
        int whileUnlike = x.repeat(false, 1, 2, partUnlike, either);
        due("as long as they are unlike: the same behind it", () -> x.prove(same, whileUnlike, same), 'p');
        due("the part for the unlike ones", () -> x.cameTo(partUnlike), 3);
        due("never begun in a heap", () -> x.witnesses(same, whileUnlike, same), 0);
        due("begun and not ended in a heap", () -> x.witnesses(same, whileSame, either), 0);
        int never = x.free(0);
        int noRound = x.repeat(false, 0, 0, never, either);
        due("no round", () -> x.prove(either, noRound, either), 'p');
        due("nothing comes to its part", () -> x.cameTo(never), 0);
        due("no round in a heap", () -> x.witnesses(either, noRound, unlike), 2);
    }

    // ---- Proving

    private static long begunWith(String before, String after, int kind) {
        Heapwitness x = new Heapwitness();
        int first = assertion(x, before);
        int last = assertion(x, after);
        int none = assertion(x, "");
        assertion(x, "1=1 2=2 3=3 4=4");
        x.load(4, 3);
        int one = x.assign(1, 1);
        switch (kind) {
            case 1: one = x.choose(2, 0, one, x.assign(1, 0)); break;
            case 2: one = x.choose(0, 2, one, x.assign(1, 0)); break;
            case 3: one = x.choose(0, 0, one, x.repeat(true, 1, 2, x.free(1), none)); break;
            case 4: one = x.choose(0, 0, one, x.repeat(true, 0, 0, x.make(2), none)); break;
            case 5: one = x.choose(0, 0, one, x.repeat(true, 0, 0, x.assign(1, 0), assertion(x, "2=0"))); break;
            case 6: one = x.choose(0, 0, one, x.repeat(true, 0, 0, x.assign(1, 0), assertion(x, "3-2"))); break;
            case 7: one = x.follow(one, x.store(1, 2)); break;
            case 8: x.follow(one, x.store(1, 2)); break;
            case 9:
                x.repeat(true, 0, 0, x.make(3), assertion(x, "2=2"));
                x.choose(0, 0, x.make(3), x.follow(x.make(2), x.free(4)));
                one = x.assign(1, 0);
                break;
            default: break;
        }
        x.prove(first, one, last);
        return x.allStates();
    }

    /** "decided for all variables that stand in it, in its last assertion, in the program and its invariants" */
    private static void variablesOfAProof() {
        due("of the program", () -> begunWith("", "", 0), 2L);
        due("of the first assertion", () -> begunWith("2=2", "", 0), 5L);
        due("of the last assertion", () -> begunWith("", "2=0", 0), 5L);
        due("of the last one's atoms", () -> begunWith("", "2-3", 0), 15L);
        due("of a choice", () -> begunWith("", "", 1), 5L);
        due("of a choice, the other one", () -> begunWith("", "", 2), 5L);
        due("of a loop that nothing comes to", () -> begunWith("", "", 3), 5L);
        due("of the part of such a loop", () -> begunWith("", "", 4), 5L);
        due("of the invariant of such a loop", () -> begunWith("", "", 5), 5L);
        due("of the atoms of such an invariant", () -> begunWith("", "", 6), 15L);
        due("of a statement that follows", () -> begunWith("", "", 7), 5L);
        due("not of what the program is a part of", () -> begunWith("", "", 8), 2L);
        due("not of loops and choices that are not in the program", () -> begunWith("", "", 9), 2L);
        due("of all", () -> begunWith("3=0", "4=0", 7), 15L);
        Heapwitness x = new Heapwitness();
        int empty = assertion(x, "");
        x.prove(empty, x.free(0), empty);
        due("no variable at all", () -> x.allStates(), 1L);
        due("a heap without variables", () -> x.witnesses(empty, x.store(0, 0), empty), 1);
        due("no variable, and nothing done", () -> x.prove(empty, x.choose(0, 0, x.make(1), x.free(0)), empty), 'l');
    }

    /** "looks at two states: the list has one cell, or two and more" */
    private static void twoStatesOfAList() {
        for (int kind = 0; kind < 3; kind++) {
            Heapwitness x = new Heapwitness();
            int full = assertion(x, "1-0 1#0 3=0");
            int cell = assertion(x, "1.0 3=0");
            int behind = x.assign(1, 1);
            x.prove(full, x.follow(atCell(x, kind, 1), behind), full);
            due("two states behind kind " + kind, () -> x.cameTo(behind), 2);
            int one = x.assign(1, 1);
            x.prove(cell, x.follow(atCell(x, kind, 1), one), full);
            due("one behind a cell, kind " + kind, () -> x.cameTo(one), 1);
        }
        Heapwitness x = new Heapwitness();
        int full = assertion(x, "1-0 1#0");
        int behind = x.assign(1, 1);
        int walk = inRow(x, x.load(1, 1), x.choose(1, 0, x.assign(1, 1), x.load(1, 1)), behind);
        due("the list has one, two, or more", () -> x.prove(full, walk, full), 'l');
        due("one, two, or more came", () -> x.cameTo(behind), 3);
        int last = x.assign(1, 1);
        x.prove(full, inRow(x, x.store(1, 0), x.store(1, 0), x.store(1, 0), last), full);
        due("it is a cell from then on", () -> x.cameTo(last), 2);
        int still = x.follow(x.assign(1, 1), x.choose(1, 0, x.free(0), x.assign(1, 1)));
        due("to assign or choose does not look there", () -> x.prove(full, still, full), 'p');
        due("one state comes of one", () -> x.cameTo(still - 2), 1);
        int elsewhere = assertion(x, "1-0 1#0 2.1");
        int at2 = x.assign(2, 2);
        x.prove(elsewhere, x.follow(x.store(2, 0), at2), full);
        due("a list elsewhere is not looked at", () -> x.cameTo(at2), 1);
    }

    /** "What no state comes to is not gone through." */
    private static void notGoneThrough() {
        Heapwitness x = new Heapwitness();
        int never = assertion(x, "1#1");
        int any = assertion(x, "1=1");
        int wrong = x.free(0);
        int loop = x.repeat(true, 0, 0, wrong, any);
        due("no states to begin with", () -> x.prove(never, loop, never), 'p');
        due("none began", () -> x.allStates(), 0L);
        due("none came to the loop", () -> x.cameTo(loop), 0);
        due("none came to its part", () -> x.cameTo(wrong), 0);
        due("no wrong place", () -> x.wrongAt(), NO_ELEMENT);
        int hidden = x.free(0);
        int hiddenLoop = x.repeat(true, 0, 0, hidden, never);
        int choice = x.choose(1, 1, x.assign(1, 1), hiddenLoop);
        due("a loop that is not chosen", () -> x.prove(any, choice, any), 'p');
        due("none came to it", () -> x.cameTo(hiddenLoop), 0);
        due("none came to its part", () -> x.cameTo(hidden), 0);
        int late = x.free(0);
        int lateLoop = x.repeat(true, 0, 0, late, never);
        int forever = x.repeat(true, 1, 1, x.assign(1, 1), any);
        due("a loop behind one that does not end", () -> x.prove(any, x.follow(forever, lateLoop), never), 'p');
        due("none came behind", () -> x.cameTo(lateLoop), 0);
        due("none came to the part behind", () -> x.cameTo(late), 0);
        int other = x.free(0);
        int behind = x.follow(x.load(1, 0), other);
        due("behind what goes wrong", () -> x.prove(any, behind, any), 'w');
        due("none came there", () -> x.cameTo(other), 0);
        due("all came to what goes wrong", () -> x.cameTo(other + 1), 2);
    }

    /** "the invariant must follow from each state that comes to it; then, once for all of them, .." */
    private static void invariants() {
        Heapwitness x = new Heapwitness();
        int any = assertion(x, "1=1 2=2 3=3");
        int nil = assertion(x, "1=0");
        int place = assertion(x, "1#0");
        int never = assertion(x, "1#1");
        int keep = x.assign(2, 2);
        int loop = x.repeat(false, 3, 3, keep, nil);
        due("it does not follow from what comes", () -> x.prove(any, loop, any), 'i');
        due("where", () -> x.wrongAt(), loop);
        due("15 came", () -> x.cameTo(loop), 15);
        int make = x.make(1);
        int broken = x.repeat(true, 0, 0, make, nil);
        due("it does not follow behind the part", () -> x.prove(nil, broken, any), 'i');
        due("where behind the part", () -> x.wrongAt(), broken);
        due("once for all of them", () -> x.cameTo(make), 5);
        int round = x.assign(1, 1);
        int once = x.repeat(true, 1, 0, round, any);
        x.prove(any, once, place);
        due("15 came from ahead", () -> x.cameTo(once), 15);
        due("those for which the condition holds", () -> x.cameTo(round), 5);
        due("all others are behind it", () -> x.prove(nil, once, place), 'p');
        due("which came from ahead", () -> x.cameTo(once), 5);
        int behind = x.assign(2, 2);
        x.prove(nil, x.follow(once, behind), place);
        due("all of the invariant's, though none came", () -> x.cameTo(behind), 10);
        int last = x.assign(1, 1);
        int noState = x.follow(x.repeat(true, 1, 0, x.assign(1, 1), never), last);
        due("an invariant without states", () -> x.prove(nil, noState, never), 'i');
        due("nothing is behind it", () -> x.cameTo(last), 0);
        Heapwitness y = new Heapwitness();
        int empty = assertion(y, "");
        int free = y.free(0);
        due("one state comes to a loop", () -> y.prove(empty, y.repeat(true, 0, 0, free, empty), empty), 'w');
        due("one goes through its part", () -> y.cameTo(free), 1);
    }

    /** As many loops in one another as there is room for: 39, and what they repeat is the 40th statement of a run. */
    private static void mostLoops() {
        Heapwitness x = new Heapwitness();
        int any = assertion(x, "1=1");
        int place = assertion(x, "1#0");
        int made = assertion(x, "1.0");
        int never = assertion(x, "0.0");
        int loop = x.assign(1, 1);
        for (int i = 0; i < 39; i++) {
            loop = x.repeat(true, 1, 0, loop, any);
        }
        int all = loop;
        due("39 loops in one another", () -> x.prove(any, all, place), 'p');
        due("to the first one", () -> x.cameTo(39), 2);
        due("to the last one", () -> x.cameTo(1), 1);
        due("to the part of the last one", () -> x.cameTo(0), 1);
        due("one does not end", () -> x.witnesses(any, all, never), 1);
        Heapwitness y = new Heapwitness();
        int nil = assertion(y, "1=0");
        int cell = assertion(y, "1.0");
        int whole = y.make(1);
        for (int i = 0; i < 39; i++) {
            whole = y.repeat(true, 1, 0, whole, nil);
        }
        int root = whole;
        due("the part does not keep the invariant", () -> y.prove(nil, root, cell), 'i');
        due("of the last loop alone", () -> y.wrongAt(), 1);
        due("it ends well", () -> y.witnesses(nil, root, cell), 0);
        due("it ends within 40", () -> y.witness(nil, root, nil), 0);
    }

    /** More places than are named: each one that is made is new. */
    private static void manyPlaces() {
        Heapwitness x = new Heapwitness();
        int cell = assertion(x, "1-2 2-3 3-4 4-0 1#2 1#3 2#3 4#0");
        int made = x.make(1);
        for (int i = 0; i < 16; i++) {
            made = x.follow(made, x.make(1));
        }
        int wrong = x.free(0);
        int whole = x.follow(made, x.choose(1, 0, wrong, x.store(1, 2)));
        due("17 that are made", () -> x.prove(cell, whole, cell), 'l');
        due("none of them is nil", () -> x.cameTo(wrong), 0);
        // four lists, or three with 3 where 4 is
        due("nor in a heap", () -> x.witnesses(cell, whole, cell), 16 + 8);
        due("the smallest one", () -> x.witness(cell, whole, cell), 3);
    }

    /** "In the end, the last assertion must follow .. if it holds for all lengths that its lists can have." */
    private static void inTheEnd() {
        Heapwitness x = new Heapwitness();
        int full = assertion(x, "1-0 1#0");
        int cell = assertion(x, "1.0");
        int two = assertion(x, "1.2 2.0");
        int empty = assertion(x, "");
        int stay = x.assign(1, 1);
        due("one cell is one length", () -> x.prove(full, stay, cell), 'l');
        due("no cell is none", () -> x.prove(full, stay, empty), 'l');
        due("a list of any length", () -> x.prove(full, stay, full), 'p');
        due("a list of one", () -> x.prove(cell, stay, full), 'p');
        due("a list of two", () -> x.prove(two, stay, full), 'p');
        due("two of one", () -> x.prove(cell, stay, two), 'l');
        due("it did not go wrong", () -> x.wrongAt(), NO_ELEMENT);
        due("one state of many is enough", () -> x.prove(assertion(x, "1-0"), stay, full), 'l');
    }

    /** "'w' if some state goes wrong; otherwise 'i' ..; otherwise 'l' ..; 'p' if it is proved." */
    private static void endsInOrder() {
        for (int faults = 0; faults < 16; faults++) {
            boolean isWrong = (faults & 1) != 0;
            boolean isBroken = (faults & 2) != 0;
            boolean isLost = (faults & 4) != 0;
            boolean isLoopLower = (faults & 8) != 0;
            Heapwitness x = new Heapwitness();
            int any = assertion(x, "1=1 2=2 3=3");
            int kept = isBroken ? assertion(x, "2=0") : any;
            int after = assertion(x, isLost ? "0.0" : "");
            int early = isLoopLower ? x.assign(1, 1) : isWrong ? x.free(0) : x.assign(1, 1);
            int loop = x.repeat(true, 1, 0, x.assign(1, 1), kept);
            int late = isLoopLower && isWrong ? x.free(0) : x.assign(1, 1);
            int choice = isLoopLower ? x.choose(3, 0, late, early) : x.choose(3, 0, early, late);
            int whole = x.follow(loop, choice);
            char due = isWrong ? 'w' : isBroken ? 'i' : isLost ? 'l' : 'p';
            due("faults " + faults, () -> x.prove(any, whole, after), due);
            int wrong = isLoopLower ? late : early;
            Object wrongAt = isWrong && isBroken ? (Object) Math.min(wrong, loop)
                : isWrong ? (Object) wrong : isBroken ? (Object) loop : NO_ELEMENT;
            due("where of faults " + faults, () -> x.wrongAt(), wrongAt);
            due("share of faults " + faults, () -> x.provedShare(), due == 'p' ? 1f : 0f);
            due("sound for faults " + faults, () -> x.isSound(), true);
        }
    }

    /** "States that go wrong are not gone on with; states that are alike are all gone on with, and counted." */
    private static void countedStates() {
        Heapwitness x = new Heapwitness();
        int list = assertion(x, "1-0");
        int any = assertion(x, "1=1 2=2");
        int load = x.load(2, 1);
        int behind = x.assign(2, 2);
        x.prove(list, x.follow(load, behind), list);
        due("all came to the load", () -> x.cameTo(load), 6);
        due("two for each that does not go wrong", () -> x.cameTo(behind), 8);
        int alike = x.assign(2, 2);
        x.prove(any, inRow(x, x.assign(1, 0), x.assign(2, 0), alike), any);
        due("five that are alike", () -> x.cameTo(alike), 5);
    }

    // ---- Witnesses

    /** Two rounds of 11 statements each, with the loop itself 23: the list of two cells is walked along. */
    private static int twoRounds(Heapwitness x, int invariant) {
        int[] row = new int[6];
        for (int i = 0; i < 5; i++) {
            row[i] = x.assign(1, 1);
        }
        row[5] = x.load(1, 1);
        return x.repeat(false, 1, 0, inRow(x, row), invariant);
    }

    /** How many heaps of one are witnesses: so many statements are begun, and the last one can go wrong. */
    private static int witnessesOf(int begun, boolean goesWrong, boolean isLoopLast) {
        Heapwitness x = new Heapwitness();
        int before = assertion(x, "1.2 2.0");
        int after = assertion(x, goesWrong ? "1=0 1-2 2.0" : "0.0");
        int rest = (begun - 23) / 2;
        int whole = isLoopLast ? x.assign(1, 1) : twoRounds(x, before);
        for (int i = 1; i < rest; i++) {
            whole = x.follow(whole, x.assign(1, 1));
        }
        int last = isLoopLast ? twoRounds(x, before) : goesWrong ? x.free(0) : x.assign(1, 1);
        whole = x.follow(whole, last);
        return x.witnesses(before, begun % 2 == 0 ? x.choose(0, 0, whole, x.make(1)) : whole, after);
    }

    /** "within 40 statements, parts counted as they are begun, a repeated one once, or ends within as many" */
    private static void fortyStatementsOfARun() {
        for (int begun = 35; begun <= 45; begun++) {
            int number = begun;
            due("ends after " + begun, () -> witnessesOf(number, false, false), number <= 40 ? 1 : 0);
            due("ends with a loop, after " + begun, () -> witnessesOf(number, false, true), number <= 40 ? 1 : 0);
            due("wrong with number " + begun, () -> witnessesOf(number, true, false), number <= 40 ? 1 : 0);
        }
        Heapwitness x = new Heapwitness();
        int any = assertion(x, "1=1");
        int row = x.assign(1, 1);
        for (int i = 0; i < 18; i++) {
            row = x.follow(row, x.assign(1, 1));
        }
        int made = x.follow(row, x.make(1));
        int all = x.repeat(true, 0, 1, made, any);
        due("all 40 that there are", () -> all, 39);
        due("end within 40", () -> x.witnesses(assertion(x, "1=0"), all, any), 1);
        Heapwitness y = new Heapwitness();
        int one = assertion(y, "");
        due("one goes wrong", () -> y.witnesses(one, y.free(0), one), 1);
        due("one ends", () -> y.witness(one, y.make(1), one), 0);
    }

    /** "a repeated one once": a loop without a round counts, and so does one in a loop, each time it is begun. */
    private static void repeatedOnesCountOnce() {
        Heapwitness x = new Heapwitness();
        int list = assertion(x, "1-2 2-3 3-4 4-0 1#2 1#3 1#4 2#3 2#4 3#4");
        int never = assertion(x, "0.0");
        int walk = x.load(1, 1);
        int inner = x.repeat(false, 0, 0, x.free(0), never);
        int part = inRow(x, walk, inner, x.assign(2, 2));
        int loop = x.repeat(false, 1, 0, part, never);
        // a round has two follows, a load, a loop and an assign: 8 rounds and the loop are 41, 7 are 36;
        // 16 heaps for 4 at a place, of which one has 8 cells, and 8 for 4 at nil
        due("a loop without a round in a round", () -> x.witnesses(list, loop, never), 23);
        Heapwitness y = new Heapwitness();
        int same = assertion(y, "1-2 2-3 3-4 4-0 1#2 1#3 1#4 2#3 2#4 3#4");
        int last = assertion(y, "0.0");
        int step = y.choose(0, 0, y.follow(y.load(1, 1), y.assign(2, 2)), y.make(2));
        // 8 rounds of 4 and the loop are 33, if its head does not count again
        int head = y.repeat(false, 1, 0, step, last);
        int chain = inRow(y, y.assign(2, 2), y.assign(2, 2), y.assign(2, 2), head);
        due("33 and 6 are 39", () -> y.witnesses(same, chain, last), 24);
        int more = y.choose(1, 1, chain, y.make(2));
        due("33 and 7 are 40", () -> y.witnesses(same, more, last), 24);
        due("33 and 8 are 41", () -> y.witnesses(same, y.choose(1, 1, more, y.make(2)), last), 23);
    }

    /** "loops are run as long as their conditions hold, without looking at invariants" */
    private static void loopsAreRun() {
        Heapwitness x = new Heapwitness();
        int list = assertion(x, "1-0");
        int empty = assertion(x, "");
        int never = assertion(x, "0.0");
        int part = inRow(x, x.load(2, 1), x.free(1), x.assign(1, 2));
        int loop = x.repeat(false, 1, 0, part, never);
        due("its invariant never holds", () -> x.prove(list, loop, empty), 'i');
        due("its runs are good", () -> x.witnesses(list, loop, empty), 0);
        due("there is none", () -> x.witness(list, loop, empty), NO_ELEMENT);
        int round = x.repeat(true, 3, 3, x.assign(3, 3), empty);
        due("a loop without an end", () -> x.witnesses(list, round, never), 0);
        due("there is none, either", () -> x.witness(list, round, never), NO_ELEMENT);
        due("behind it nothing goes wrong", () -> x.witnesses(list, x.follow(round, x.free(0)), never), 0);
        int wrong = x.repeat(true, 3, 3, x.follow(x.load(1, 1), x.assign(2, 2)), empty);
        due("but in it", () -> x.witness(list, wrong, never), 0);
    }

    /** "each list with 1 or 2 cells; they are as many as there are states and such lengths" */
    private static void lengthsOfLists() {
        due("no list, no cell", () -> heapsOf(""), 1);
        due("no state", () -> heapsOf("1#1"), 0);
        due("a cell", () -> heapsOf("1.0"), 1);
        due("no list, or one of 1 or 2", () -> heapsOf("1-0"), 1 + 2);
        due("a list", () -> heapsOf("1-0 1#0"), 2);
        due("two lists", () -> heapsOf("1-0 2-0 1#0 2#0"), 4);
        due("four lists", () -> heapsOf("1-0 2-0 3-0 4-0 1#0 2#0 3#0 4#0"), 16);
        due("lists that are parted", () -> heapsOf("1-0 2=2"), 2 + 3 * 2 + 4);
        Heapwitness x = new Heapwitness();
        int full = assertion(x, "1-0 1#0");
        int two = inRow(x, x.load(1, 1), x.choose(1, 0, x.assign(1, 1), x.load(1, 1)));
        int third = x.choose(1, 0, x.assign(1, 1), x.free(0));
        int whole = x.follow(two, third);
        due("a third cell goes wrong", () -> x.prove(full, whole, assertion(x, "1=0 1#1")), 'w');
        int any = assertion(x, "0.0");
        due("no heap has a third cell, both end", () -> x.witnesses(full, whole, any), 2);
        int parted = assertion(x, "1-0 1#0 2#0 2#1");
        // 2 outside: 2 heaps; within: 1 and 1, 1 and 2, 2 and 1, 2 and 2, of which three have a third cell
        due("with two lists all end or go wrong", () -> x.witnesses(parted, whole, any), 6);
        due("the smallest one has one cell", () -> x.witness(parted, whole, any), 1);
    }

    private static int heapsOf(String text) {
        Heapwitness x = new Heapwitness();
        return x.witnesses(assertion(x, text), x.free(0), assertion(x, ""));
    }

    /** "Returns how many cells a smallest one has": those that it has to begin with. */
    private static void smallestWitness() {
        Heapwitness x = new Heapwitness();
        int empty = assertion(x, "");
        int cell = assertion(x, "1.0");
        int list = assertion(x, "1-0");
        int full = assertion(x, "1-0 1#0");
        due("the cell that is freed", () -> x.witness(cell, x.free(1), cell), 1);
        due("the cell that is made is not there", () -> x.witness(empty, x.make(1), empty), 0);
        due("the empty list", () -> x.witness(list, x.free(1), empty), 0);
        due("two cells, as one is right", () -> x.witness(full, x.free(1), empty), 2);
        due("none, as all are right", () -> x.witness(cell, x.free(1), empty), NO_ELEMENT);
        due("no heap at all", () -> x.witness(assertion(x, "1#1"), x.free(1), empty), NO_ELEMENT);
        int either = assertion(x, "1-2 1#0");
        int never = assertion(x, "1#1");
        due("a list to nil, no list, or one to a place", () -> x.witnesses(either, x.assign(1, 1), never), 2 + 1 + 2);
        due("the smallest of all states, in whichever order", () -> x.witness(either, x.assign(1, 1), never), 0);
        due("which is the smallest against it, too", () -> x.against(either, never), 0);
    }

    // ---- Promises

    /** "Creates a prover without assertions and statements." */
    private static void newObject() {
        due("no assertion", () -> new Heapwitness().states(0), INDEX);
        due("no statement", () -> new Heapwitness().cameTo(0), INDEX);
        due("no proof", () -> new Heapwitness().wrongAt(), NO_ELEMENT);
        due("no states", () -> new Heapwitness().allStates(), 0L);
        due("no share", () -> new Heapwitness().provedShare(), ARITHMETIC);
        due("sound", () -> new Heapwitness().isSound(), true);
        due("the first assertion", () -> new Heapwitness().addAssertion(), 0);
        due("the first statement", () -> new Heapwitness().free(0), 0);
        Heapwitness one = new Heapwitness();
        one.addAssertion();
        one.make(1);
        one.prove(0, 0, 0);
        due("another one has its own assertions", () -> new Heapwitness().states(0), INDEX);
        due("its own statements", () -> new Heapwitness().make(1), 0);
        due("its own proofs", () -> new Heapwitness().allStates(), 0L);
    }

    /** An assertion without facts and atoms, ahead of a program, behind it, and at its loops. */
    private static void nothingIsSaid() {
        Heapwitness x = new Heapwitness();
        int empty = assertion(x, "");
        int cell = assertion(x, "1.0");
        int stay = x.assign(1, 1);
        int loop = x.repeat(false, 1, 1, x.assign(1, 1), empty);
        due("proved", () -> x.prove(empty, stay, empty), 'p');
        due("for nil or not", () -> x.allStates(), 2L);
        due("no witness", () -> x.witness(empty, stay, empty), NO_ELEMENT);
        due("no witnesses", () -> x.witnesses(empty, stay, empty), 0);
        due("its loop", () -> x.prove(empty, loop, empty), 'p');
        due("a cell is too much for its loop", () -> x.prove(cell, loop, empty), 'i');
        due("and in the end", () -> x.prove(cell, stay, empty), 'l');
        due("nothing is no cell", () -> x.prove(empty, stay, cell), 'l');
        due("in no heap", () -> x.witnesses(empty, stay, cell), 2);
        Heapwitness y = new Heapwitness();
        int one = y.addAssertion();
        int other = y.addAssertion();
        due("two of them follow", () -> y.follows(one, other), true);
        due("by heaps, too", () -> y.followsByHeaps(other, one), true);
        due("nothing is left", () -> y.left(one, other), 0);
        due("nothing is against", () -> y.against(one, other), NO_ELEMENT);
        due("they are sound", () -> y.isSound(), true);
    }

    /** "0 without states", "if it allows none": an assertion that never holds, wherever one is named. */
    private static void noState() {
        Heapwitness x = new Heapwitness();
        int any = assertion(x, "1=1");
        int never = assertion(x, "1.0 1=0");
        int stay = x.assign(1, 1);
        int loop = x.repeat(true, 1, 1, x.assign(1, 1), never);
        due("no states", () -> x.states(never), 0);
        due("no mean", () -> x.meanAtoms(never), ARITHMETIC);
        due("all follows", () -> x.follows(never, any), true);
        due("all follows by heaps", () -> x.followsByHeaps(never, any), true);
        due("no heap is against", () -> x.against(never, any), NO_ELEMENT);
        due("nothing is left", () -> x.left(never, any), 0);
        due("nothing can be left for it", () -> x.left(any, never), NO_ELEMENT);
        due("all programs are proved", () -> x.prove(never, loop, never), 'p');
        due("nothing comes", () -> x.cameTo(loop), 0);
        due("nothing is begun with", () -> x.allStates(), 0L);
        due("but proved", () -> x.provedShare(), 1f);
        due("sound with it", () -> x.isSound(), true);
        due("no heaps", () -> x.witnesses(never, x.free(0), never), 0);
        due("no witness", () -> x.witness(never, x.free(0), never), NO_ELEMENT);
        due("it does not follow in the end", () -> x.prove(any, stay, never), 'l');
        due("nor at a loop", () -> x.prove(any, loop, any), 'i');
        due("whose part nothing comes to", () -> x.cameTo(loop - 1), 0);
        due("all heaps are against it", () -> x.witnesses(any, stay, never), 2);
        due("the smallest is empty", () -> x.witness(any, stay, never), 0);
    }

    /** wrongAt() and cameTo(): "the last proof", "if there was no proof, or it ended with 'l' or 'p'". */
    private static void lastProof() {
        Heapwitness x = new Heapwitness();
        int any = assertion(x, "1=1");
        int never = assertion(x, "1#1");
        int wrong = x.free(0);
        int fine = x.assign(1, 1);
        int loop = x.repeat(true, 0, 0, x.assign(1, 1), never);
        due("no proof, no wrong place", () -> x.wrongAt(), NO_ELEMENT);
        due("no proof, no states", () -> x.cameTo(wrong), NO_ELEMENT);
        due("no proof, no statement", () -> x.cameTo(99), INDEX);
        due("a witness is no proof", () -> x.witnesses(any, wrong, any), 2);
        due("no proof still", () -> x.wrongAt(), NO_ELEMENT);
        due("no proof still, no states", () -> x.cameTo(wrong), NO_ELEMENT);
        due("ends with 'w'", () -> x.prove(any, wrong, any), 'w');
        due("the lowest statement", () -> x.wrongAt(), 0);
        due("it came there", () -> x.cameTo(wrong), 2);
        due("ends with 'i'", () -> x.prove(any, loop, any), 'i');
        due("the loop", () -> x.wrongAt(), loop);
        due("the last one did not come there", () -> x.cameTo(wrong), 0);
        due("refused", () -> x.prove(any, loop + 1, any), INDEX);
        due("the one before it", () -> x.wrongAt(), loop);
        due("ends with 'l'", () -> x.prove(any, fine, never), 'l');
        due("no wrong place of 'l'", () -> x.wrongAt(), NO_ELEMENT);
        due("ends with 'w' again", () -> x.prove(any, wrong, any), 'w');
        due("a witness between", () -> x.witnesses(any, fine, any), 0);
        due("is not looked at", () -> x.wrongAt(), wrong);
        due("nor counted", () -> x.cameTo(fine), 0);
        due("ends with 'p'", () -> x.prove(any, fine, any), 'p');
        due("no wrong place of 'p'", () -> x.wrongAt(), NO_ELEMENT);
        int later = x.make(1);
        due("a statement that was not there", () -> x.cameTo(later), 0);
        due("no statement behind it", () -> x.cameTo(later + 1), INDEX);
        due("the first statement", () -> x.cameTo(0), 0);
        due("no statement ahead of it", () -> x.cameTo(-1), INDEX);
    }

    /** allStates(), provedShare(), meanAtoms(): none, one, and of all. */
    private static void figures() {
        Heapwitness x = new Heapwitness();
        int any = assertion(x, "1=1 2=2 3=3 4=4");
        int never = assertion(x, "1#1");
        int fine = x.assign(1, 1);
        due("no states", () -> x.allStates(), 0L);
        due("no proof, no share", () -> x.provedShare(), ARITHMETIC);
        x.witnesses(any, fine, any);
        due("refused: no assertion", () -> x.prove(any, fine, 2), INDEX);
        due("no proof still", () -> x.provedShare(), ARITHMETIC);
        due("no states still", () -> x.allStates(), 0L);
        due("begins with none", () -> x.prove(never, fine, any), 'p');
        due("none", () -> x.allStates(), 0L);
        due("one of one", () -> x.provedShare(), 1f);
        due("begins with 52", () -> x.prove(any, fine, never), 'l');
        due("52", () -> x.allStates(), 52L);
        due("one of two", () -> x.provedShare(), 0.5f);
        due("wrong for all", () -> x.prove(any, x.free(0), any), 'w');
        due("104", () -> x.allStates(), 104L);
        due("one of three", () -> x.provedShare(), 1f / 3f);
        due("soundness is no proof", () -> x.isSound(), true);
        due("one of three still", () -> x.provedShare(), 1f / 3f);
        due("104 still", () -> x.allStates(), 104L);
        Heapwitness y = new Heapwitness();
        y.addAssertion();
        due("none of one", () -> y.prove(0, y.make(1), 0), 'l');
        due("the share is 0", () -> y.provedShare(), 0f);
        due("no mean of no states", () -> meanOf("1.0 1=0"), ARITHMETIC);
        due("a mean of nothing", () -> meanOf("1=1"), 0.0);
        due("a mean of four", () -> meanOf("1.0 2.0 3.0 4.0"), 4.0);
        due("a mean of 0 and 1", () -> meanOf("1-0"), 0.5);
        // 1 nil: 2 nil, or a list; 1 not: 2 nil, or another list
        due("a mean of 0, 1, 1, 2", () -> meanOf("1-0 2-0"), 1.0);
        // 2 nil, or the same: 0; at 3 states a list: nil and a place, two places
        due("a mean that is no short number", () -> meanOf("1-2 2=2 1#0"), 2.0 / 3.0);
    }

    /** isSound(): "for the last two assertions .. and if the last proof ended with 'p', and no .. added since" */
    private static void soundness() {
        Heapwitness x = new Heapwitness();
        due("nothing", () -> x.isSound(), true);
        int list = assertion(x, "1-0");
        due("one assertion", () -> x.isSound(), true);
        int full = assertion(x, "1-0 1#0");
        due("two", () -> x.isSound(), true);
        assertion(x, "1#1");
        due("three", () -> x.isSound(), true);
        int step = x.assign(2, 1);
        int whole = x.follow(step, x.assign(1, 2));
        due("proved", () -> x.prove(full, whole, list), 'p');
        due("sound with a proof", () -> x.isSound(), true);
        due("its program becomes a part", () -> x.follow(whole, x.free(0)), 4);
        due("sound still", () -> x.isSound(), true);
        due("proved as a part", () -> x.prove(full, whole, list), 'p');
        due("sound again", () -> x.isSound(), true);
        due("a fact is added that spoils it", () -> x.addFact(list, true, 1, 0), 1);
        due("which is not looked at", () -> x.isSound(), true);
        for (int i = 0; i < 7; i++) {
            x.addAssertion();
        }
        due("the last two of ten", () -> x.isSound(), true);
    }

    /** "An object is used for at most 512 calls after it has been made" */
    private static void manyCalls() {
        Heapwitness x = new Heapwitness();
        int all = assertion(x, "2=2 3=3 4=4 1-0");
        int stay = x.assign(1, 1);
        for (int i = 6; i < 510; i++) {
            x.prove(all, stay, all);
        }
        due("504 proofs of 122 states", () -> x.allStates(), 504L * 122L);
        due("all of them", () -> x.provedShare(), 1f);
        due("the 512th call", () -> x.witnesses(all, stay, all), 0);
        for (int i = 0; i < 2000; i++) {
            x.isSound();
            x.prove(all, stay, all);
            answerOf(() -> x.addFact(all, true, 1, 1));
        }
        due("calls behind them end, too", () -> x.cameTo(stay), 122);
    }

    public static void main(String[] args) {
        nilIsNamed();
        placesWithoutCells();
        mostOfAssertions();
        emptyAssertion();
        cellsAreGivenOnce();
        listsOfNothing();
        listsEnd();
        atomsBegin();
        listsHaveCells();
        placesLieWithin();
        listsAreParted();
        unnamedIsUnlike();
        followingFromNothing();
        mostStatements();
        partsOfOne();
        noSuchCell();
        newPlaces();
        choosingAndRepeating();
        variablesOfAProof();
        twoStatesOfAList();
        notGoneThrough();
        invariants();
        mostLoops();
        manyPlaces();
        inTheEnd();
        endsInOrder();
        countedStates();
        fortyStatementsOfARun();
        repeatedOnesCountOnce();
        loopsAreRun();
        lengthsOfLists();
        smallestWitness();
        newObject();
        nothingIsSaid();
        noState();
        lastProof();
        figures();
        soundness();
        manyCalls();
        tell();
    }
}
