import java.util.ArrayList;
import java.util.Arrays;
import java.util.List;
import java.util.Set;
import java.util.TreeSet;

/**
 * Every method with every argument that is too small, the least, the greatest, or too large, on provers with
 * nothing in them, with something, with proofs, and with no room for more. What is due is told by the document's
 * lists of exceptions alone: the first one of those that apply; and a call that throws changes nothing.
 */
public final class RefusalTests extends Check {
    /** What an argument is; a PIECE is a statement that becomes a part, a TARGET a variable that gets something. */
    private enum Kind { FLAG, ASSERTION, STATEMENT, PIECE, VARIABLE, TARGET }

    /** Of what there can be too many. */
    private enum Room { ENDLESS, ASSERTIONS, FACTS, ATOMS, STATEMENTS }

    private interface Action {
        Object answer(Heapwitness x, int[] of);
    }

    private record Method(String name, Room room, List<String> listed, List<Kind> kinds, Action action) { }

    /** A prover, and what must be known of it to tell which calls it refuses. */
    private static final class World {
        final String name;
        final Heapwitness x = new Heapwitness();
        final Set<Integer> parts = new TreeSet<>();
        int assertions = 0;
        int statements = 0;
        boolean areAssertionsFull = false;
        char lastEnd = 0;

        World(String name) {
            this.name = name;
        }

        void add(String text) {
            assertion(x, text);
            assertions++;
        }

        void follow(int first, int second) {
            statements = x.follow(first, second) + 1;
            parts.add(first);
            parts.add(second);
        }

        boolean isFull(Room room) {
            switch (room) {
                case ASSERTIONS: return assertions == 10;
                case FACTS: return areAssertionsFull;
                case ATOMS: return areAssertionsFull;
                case STATEMENTS: return statements == 40;
                default: return false;
            }
        }
    }

    private static final List<Method> METHODS = new ArrayList<>();

    private static void method(String name, Room room, List<String> listed, List<Kind> kinds, Action action) {
        METHODS.add(new Method(name, room, listed, kinds, action));
    }

    private static void listAssertionMethods() {
        List<Kind> added = List.of(Kind.ASSERTION, Kind.FLAG, Kind.VARIABLE, Kind.VARIABLE);
        List<Kind> one = List.of(Kind.ASSERTION);
        List<Kind> two = List.of(Kind.ASSERTION, Kind.ASSERTION);
        method("P2 addAssertion", Room.ASSERTIONS, List.of(STATE), List.of(), (x, of) -> x.addAssertion());
        method("P3 addFact", Room.FACTS, List.of(INDEX, ARGUMENT, STATE), added,
            (x, of) -> x.addFact(of[0], of[1] == 1, of[2], of[3]));
        method("P4 addAtom", Room.ATOMS, List.of(INDEX, ARGUMENT, STATE), added,
            (x, of) -> x.addAtom(of[0], of[1] == 1, of[2], of[3]));
        method("P5 states", Room.ENDLESS, List.of(INDEX), one, (x, of) -> x.states(of[0]));
        method("P6 follows", Room.ENDLESS, List.of(INDEX), two, (x, of) -> x.follows(of[0], of[1]));
        method("P7 followsByHeaps", Room.ENDLESS, List.of(INDEX), two, (x, of) -> x.followsByHeaps(of[0], of[1]));
        method("P8 against", Room.ENDLESS, List.of(INDEX, NO_ELEMENT), two, (x, of) -> x.against(of[0], of[1]));
        method("P9 left", Room.ENDLESS, List.of(INDEX, NO_ELEMENT), two, (x, of) -> x.left(of[0], of[1]));
        method("P25 meanAtoms", Room.ENDLESS, List.of(INDEX, ARITHMETIC), one, (x, of) -> x.meanAtoms(of[0]));
    }

    private static void listStatementMethods() {
        List<String> simple = List.of(ARGUMENT, STATE);
        List<Kind> gets = List.of(Kind.TARGET, Kind.VARIABLE);
        method("P10 assign", Room.STATEMENTS, simple, gets, (x, of) -> x.assign(of[0], of[1]));
        method("P11 load", Room.STATEMENTS, simple, gets, (x, of) -> x.load(of[0], of[1]));
        method("P12 store", Room.STATEMENTS, simple, List.of(Kind.VARIABLE, Kind.VARIABLE),
            (x, of) -> x.store(of[0], of[1]));
        method("P13 make", Room.STATEMENTS, simple, List.of(Kind.TARGET), (x, of) -> x.make(of[0]));
        method("P14 free", Room.STATEMENTS, simple, List.of(Kind.VARIABLE), (x, of) -> x.free(of[0]));
        method("P15 follow", Room.STATEMENTS, List.of(INDEX, PART, STATE), List.of(Kind.PIECE, Kind.PIECE),
            (x, of) -> x.follow(of[0], of[1]));
        method("P16 choose", Room.STATEMENTS, List.of(ARGUMENT, INDEX, PART, STATE),
            List.of(Kind.VARIABLE, Kind.VARIABLE, Kind.PIECE, Kind.PIECE),
            (x, of) -> x.choose(of[0], of[1], of[2], of[3]));
        method("P17 repeat", Room.STATEMENTS, List.of(ARGUMENT, INDEX, PART, STATE),
            List.of(Kind.FLAG, Kind.VARIABLE, Kind.VARIABLE, Kind.PIECE, Kind.ASSERTION),
            (x, of) -> x.repeat(of[0] == 1, of[1], of[2], of[3], of[4]));
    }

    private static void listProofMethods() {
        List<Kind> program = List.of(Kind.ASSERTION, Kind.STATEMENT, Kind.ASSERTION);
        method("P18 prove", Room.ENDLESS, List.of(INDEX), program, (x, of) -> x.prove(of[0], of[1], of[2]));
        method("P19 wrongAt", Room.ENDLESS, List.of(NO_ELEMENT), List.of(), (x, of) -> x.wrongAt());
        method("P20 cameTo", Room.ENDLESS, List.of(INDEX, NO_ELEMENT), List.of(Kind.STATEMENT),
            (x, of) -> x.cameTo(of[0]));
        method("P21 witness", Room.ENDLESS, List.of(INDEX, NO_ELEMENT), program,
            (x, of) -> x.witness(of[0], of[1], of[2]));
        method("P22 witnesses", Room.ENDLESS, List.of(INDEX), program, (x, of) -> x.witnesses(of[0], of[1], of[2]));
        method("P23 allStates", Room.ENDLESS, List.of(), List.of(), (x, of) -> x.allStates());
        method("P24 provedShare", Room.ENDLESS, List.of(ARITHMETIC), List.of(), (x, of) -> x.provedShare());
        method("P26 isSound", Room.ENDLESS, List.of(), List.of(), (x, of) -> x.isSound());
    }

    // ---- provers

    private static final String[] WORLDS = {"new", "without assertions", "without statements", "begun", "wrong",
        "proved", "full"};

    private static World world(String name) {
        World world = new World(name);
        Heapwitness x = world.x;
        if (name.equals("new")) {
            return world;
        }
        if (name.equals("full")) {
            fill(world);
            return world;
        }
        if (!name.equals("without assertions")) {
            world.add("1-0");
            world.add("1#0 1-0");
            world.add("1#1");
        }
        if (name.equals("without statements")) {
            return world;
        }
        x.load(2, 1);
        x.store(1, 0);
        x.free(2);
        x.assign(3, 3);
        world.follow(1, 0);
        if (name.equals("wrong") || name.equals("proved")) {
            world.lastEnd = x.prove(name.equals("wrong") ? 0 : 1, 0, name.equals("wrong") ? 0 : 2);
            world.lastEnd = name.equals("wrong") ? world.lastEnd : x.prove(2, 4, 1);
        }
        return world;
    }

    /** 10 assertions of 6 facts and 4 atoms, and 40 statements, of which the last two are no parts. */
    private static void fill(World world) {
        for (int i = 0; i < 10; i++) {
            world.add("0=0 1=1 2=2 0=0 1=1 " + (i == 9 ? "3=3" : "2=2") + " 1-0 2-2 0-0 " + (i == 8 ? "1-0" : "1-1"));
        }
        for (int i = 0; i < 20; i++) {
            world.x.assign(2, 1);
        }
        world.statements = 20;
        for (int i = 1; i < 19; i++) {
            world.follow(i == 1 ? 0 : 18 + i, i);
        }
        world.x.load(1, 1);
        world.statements = world.x.store(1, 0) + 1;
        world.areAssertionsFull = true;
        world.lastEnd = world.x.prove(0, 37, 0);
    }

    // ---- what is due

    private static boolean isOutside(World world, Kind kind, int value) {
        switch (kind) {
            case ASSERTION: return value < 0 || value >= world.assertions;
            case STATEMENT: return value < 0 || value >= world.statements;
            case PIECE: return value < 0 || value >= world.statements;
            case VARIABLE: return value < 0 || value > 4;
            case TARGET: return value < 1 || value > 4;
            default: return false;
        }
    }

    private static boolean applies(World world, Method method, int[] of, String exception) {
        List<Kind> kinds = method.kinds;
        List<Integer> pieces = new ArrayList<>();
        boolean isIndex = false;
        boolean isArgument = false;
        for (int i = 0; i < of.length; i++) {
            boolean isVariable = kinds.get(i) == Kind.VARIABLE || kinds.get(i) == Kind.TARGET;
            isIndex |= !isVariable && isOutside(world, kinds.get(i), of[i]);
            isArgument |= isVariable && isOutside(world, kinds.get(i), of[i]);
            if (kinds.get(i) == Kind.PIECE) {
                pieces.add(of[i]);
            }
        }
        switch (exception) {
            case INDEX:
                return isIndex;
            case ARGUMENT:
                return isArgument;
            case PART:
                return new TreeSet<>(pieces).size() < pieces.size()
                    || pieces.stream().anyMatch(world.parts::contains);
            case STATE:
                return world.isFull(method.room);
            default:
                return !isIndex && hasNothing(world, method.name, of);
        }
    }

    /** Whether there is nothing to answer with, told by other calls. */
    private static boolean hasNothing(World world, String name, int[] of) {
        switch (name) {
            case "P8 against": return world.x.followsByHeaps(of[0], of[1]);
            case "P9 left": return answerOf(() -> world.x.left(of[0], of[1])).equals(NO_ELEMENT);
            case "P19 wrongAt": return world.lastEnd != 'w' && world.lastEnd != 'i';
            case "P20 cameTo": return world.lastEnd == 0;
            case "P21 witness": return world.x.witnesses(of[0], of[1], of[2]) == 0;
            case "P24 provedShare": return world.lastEnd == 0;
            case "P25 meanAtoms": return world.x.states(of[0]) == 0;
            default: throw new IllegalStateException(name);
        }
    }

    // ---- going through all

    private static int[] values(World world, Kind kind) {
        switch (kind) {
            case FLAG: return new int[] {0, 1};
            case ASSERTION: return new int[] {Integer.MIN_VALUE, -1, 0, world.assertions - 1, world.assertions,
                Integer.MAX_VALUE};
            case VARIABLE: return new int[] {Integer.MIN_VALUE, -1, 0, 4, 5, Integer.MAX_VALUE};
            case TARGET: return new int[] {Integer.MIN_VALUE, -1, 0, 1, 4, 5, Integer.MAX_VALUE};
            default: return new int[] {Integer.MIN_VALUE, -1, 0, world.statements - 2, world.statements - 1,
                world.statements, Integer.MAX_VALUE};
        }
    }

    private static void goThrough(String name, Method method, int[] of, int number, String before) {
        if (number < of.length) {
            for (int value : values(world(name), method.kinds.get(number))) {
                of[number] = value;
                goThrough(name, method, of, number + 1, before);
            }
            return;
        }
        World world = world(name);
        String want = null;
        for (int i = method.listed.size() - 1; i >= 0; i--) {
            want = applies(world, method, of, method.listed.get(i)) ? method.listed.get(i) : want;
        }
        String what = name + ": " + method.name + Arrays.toString(of);
        Object got = answerOf(() -> method.action.answer(world.x, of));
        boolean isRefused = got instanceof String;
        due(what, () -> isRefused ? got : null, want);
        if (isRefused && isPlain(of)) {
            due("changes nothing, " + what, () -> seen(world), before);
        }
    }

    /** Whether it has no number that is far out: one step out is enough to see what a refused call changes. */
    private static boolean isPlain(int[] of) {
        for (int value : of) {
            if (value == Integer.MIN_VALUE || value == Integer.MAX_VALUE) {
                return false;
            }
        }
        return true;
    }

    /** All that calls tell of a prover; those that change it come last. */
    private static String seen(World world) {
        Heapwitness x = world.x;
        StringBuilder text = new StringBuilder();
        text.append(answerOf(() -> x.wrongAt())).append(x.allStates()).append(answerOf(() -> x.provedShare()));
        text.append(x.isSound()).append(" came");
        for (int i = 0; i < world.statements; i++) {
            int statement = i;
            text.append(' ').append(answerOf(() -> x.cameTo(statement)));
        }
        for (int i = 0; i < world.assertions; i++) {
            int one = i;
            text.append(" states ").append(x.states(i)).append(' ').append(answerOf(() -> x.meanAtoms(one)));
            text.append(x.follows(i, 0)).append(answerOf(() -> x.left(0, one)));
        }
        for (int i = 0; i < world.statements && world.assertions > 1; i++) {
            text.append(" prove ").append(x.prove(0, i, 1)).append(x.witnesses(1, i, 0));
        }
        for (int i = 0; i < world.assertions; i++) {
            int one = i;
            text.append(" facts ").append(answerOf(() -> x.addFact(one, true, 1, 1)));
            text.append(" atoms ").append(answerOf(() -> x.addAtom(one, true, 2, 2)));
        }
        for (int i = 0; i < world.statements; i++) {
            int statement = i;
            text.append(" part ").append(answerOf(() -> x.repeat(true, 1, 0, statement, 0)));
        }
        text.append(" next ").append(answerOf(() -> x.assign(1, 1))).append(answerOf(() -> x.addAssertion()));
        return text.toString();
    }

    public static void main(String[] args) {
        listAssertionMethods();
        listStatementMethods();
        listProofMethods();
        due("methods of the face", () -> METHODS.size(), 25);
        for (String name : WORLDS) {
            String before = seen(world(name));
            for (Method method : METHODS) {
                goThrough(name, method, new int[method.kinds.size()], 0, before);
            }
        }
        tell();
    }
}
