import java.util.ArrayList;
import java.util.Collections;
import java.util.List;
import java.util.Map;
import java.util.Random;
import java.util.Set;
import java.util.TreeMap;
import java.util.TreeSet;

/**
 * The class against a second, plain prover, written from the document alone: it finds states by trying all
 * orders, tells whether an assertion holds by the cells of heaps with lists of 1 to 3 cells, and goes through
 * programs with lists of states. Programs and assertions come from a fixed seed.
 */
public final class OracleTests {
    private static final int MANY = 2600;
    private static int wrong = 0;

    /** A fact or an atom. */
    private record Pair(boolean mark, int x, int y) { }

    private static final class Said {
        final List<Pair> facts = new ArrayList<>();
        final List<Pair> atoms = new ArrayList<>();

        void name(Set<Integer> names) {
            for (Pair pair : facts) {
                names.add(pair.x);
                names.add(pair.y);
            }
            for (Pair pair : atoms) {
                names.add(pair.x);
                names.add(pair.y);
            }
        }
    }

    /** What begins at a place: a cell, or a list. */
    private record Piece(boolean isList, int end) { }

    private static final class Condition {
        final int[] vars;
        final TreeMap<Integer, Piece> pieces;
        int fresh;

        Condition(int[] vars, Map<Integer, Piece> pieces, int fresh) {
            this.vars = vars.clone();
            this.pieces = new TreeMap<>(pieces);
            this.fresh = fresh;
        }

        Condition copy() {
            return new Condition(vars, pieces, fresh);
        }
    }

    // ---- whether an assertion holds, by its cells

    private static boolean holds(Said said, int[] vars, Map<Integer, Integer> heap) {
        for (Pair fact : said.facts) {
            if ((vars[fact.x] == vars[fact.y]) != fact.mark) {
                return false;
            }
        }
        Set<Integer> given = new TreeSet<>();
        for (Pair atom : said.atoms) {
            List<Integer> asked = asked(atom, vars, heap);
            if (asked == null) {
                return false;
            }
            for (int place : asked) {
                if (!given.add(place)) {
                    return false;
                }
            }
        }
        return given.size() == heap.size();
    }

    private static List<Integer> asked(Pair atom, int[] vars, Map<Integer, Integer> heap) {
        List<Integer> places = new ArrayList<>();
        int at = vars[atom.x];
        int end = vars[atom.y];
        if (!atom.mark) {
            if (!heap.containsKey(at) || heap.get(at) != end) {
                return null;
            }
            places.add(at);
            return places;
        }
        while (at != end) {
            if (!heap.containsKey(at) || places.contains(at)) {
                return null;
            }
            places.add(at);
            at = heap.get(at);
        }
        return places;
    }

    /** All heaps of a condition, each list with 1 to so many cells. */
    private static List<Map<Integer, Integer>> heaps(Condition condition, int most) {
        List<Map<Integer, Integer>> all = new ArrayList<>();
        all.add(new TreeMap<>());
        int fresh = 1000;
        for (Map.Entry<Integer, Piece> entry : condition.pieces.entrySet()) {
            List<Map<Integer, Integer>> more = new ArrayList<>();
            for (Map<Integer, Integer> heap : all) {
                for (int cells = 1; cells <= (entry.getValue().isList ? most : 1); cells++) {
                    Map<Integer, Integer> longer = new TreeMap<>(heap);
                    int at = entry.getKey();
                    for (int i = 1; i < cells; i++) {
                        longer.put(at, fresh + i);
                        at = fresh + i;
                    }
                    longer.put(at, entry.getValue().end);
                    more.add(longer);
                }
            }
            all = more;
            fresh += 1000;
        }
        return all;
    }

    private static boolean holdsForAllLengths(Said said, Condition condition) {
        for (Map<Integer, Integer> heap : heaps(condition, 3)) {
            if (!holds(said, condition.vars, heap)) {
                return false;
            }
        }
        return true;
    }

    // ---- states

    private static List<Condition> statesOf(Said said, Set<Integer> names) {
        List<Condition> found = new ArrayList<>();
        Set<String> seen = new TreeSet<>();
        int[] vars = new int[5];
        for (int code = 0; code < 625; code++) {
            int rest = code;
            boolean isDue = true;
            for (int v = 1; v <= 4; v++) {
                vars[v] = rest % 5;
                rest /= 5;
                isDue &= names.contains(v) || vars[v] == 0;
            }
            int[] plain = plain(vars);
            if (isDue && seen.add(java.util.Arrays.toString(plain))) {
                addStates(said, plain, found);
            }
        }
        return found;
    }

    /** The same parting, with places numbered as they come. */
    private static int[] plain(int[] vars) {
        Map<Integer, Integer> numbers = new TreeMap<>();
        numbers.put(0, 0);
        int[] plain = new int[vars.length];
        for (int v = 1; v < vars.length; v++) {
            numbers.putIfAbsent(vars[v], numbers.size());
            plain[v] = numbers.get(vars[v]);
        }
        return plain;
    }

    private static void addStates(Said said, int[] vars, List<Condition> found) {
        for (Pair fact : said.facts) {
            if ((vars[fact.x] == vars[fact.y]) != fact.mark) {
                return;
            }
        }
        TreeMap<Integer, Piece> told = new TreeMap<>();
        for (Pair atom : said.atoms) {
            int begin = vars[atom.x];
            if (atom.mark && begin == vars[atom.y]) {
                continue;
            }
            if (begin == 0 || told.put(begin, new Piece(atom.mark, vars[atom.y])) != null) {
                return;
            }
        }
        List<Integer> free = new ArrayList<>();
        for (int v = 1; v <= 4; v++) {
            if (vars[v] != 0 && !told.containsKey(vars[v]) && !free.contains(vars[v])) {
                free.add(vars[v]);
            }
        }
        List<Integer> lists = new ArrayList<>();
        for (int begin : told.keySet()) {
            if (told.get(begin).isList) {
                lists.add(begin);
            }
        }
        place(vars, told, lists, free, new TreeMap<>(), found);
    }

    /** Gives each free place to one of the lists or to none, and then each list's places an order. */
    private static void place(int[] vars, TreeMap<Integer, Piece> told, List<Integer> lists, List<Integer> free,
            TreeMap<Integer, List<Integer>> within, List<Condition> found) {
        if (free.isEmpty()) {
            order(vars, new TreeMap<>(told), told, new ArrayList<>(within.keySet()), within, found);
            return;
        }
        int one = free.get(0);
        List<Integer> others = free.subList(1, free.size());
        place(vars, told, lists, others, within, found);
        for (int list : lists) {
            if (told.get(list).end != one) {
                TreeMap<Integer, List<Integer>> more = new TreeMap<>(within);
                List<Integer> longer = new ArrayList<>(within.getOrDefault(list, new ArrayList<>()));
                longer.add(one);
                more.put(list, longer);
                place(vars, told, lists, others, more, found);
            }
        }
    }

    private static void order(int[] vars, TreeMap<Integer, Piece> pieces, TreeMap<Integer, Piece> told,
            List<Integer> lists, TreeMap<Integer, List<Integer>> within, List<Condition> found) {
        if (lists.isEmpty()) {
            int fresh = 1;
            for (int v = 1; v <= 4; v++) {
                fresh = Math.max(fresh, vars[v] + 1);
            }
            found.add(new Condition(vars, pieces, fresh));
            return;
        }
        int list = lists.get(0);
        List<List<Integer>> orders = new ArrayList<>();
        permute(within.get(list), new ArrayList<>(), orders);
        for (List<Integer> order : orders) {
            TreeMap<Integer, Piece> parted = new TreeMap<>(pieces);
            int at = list;
            for (int place : order) {
                parted.put(at, new Piece(true, place));
                at = place;
            }
            parted.put(at, new Piece(true, told.get(list).end));
            order(vars, parted, told, lists.subList(1, lists.size()), within, found);
        }
    }

    private static void permute(List<Integer> rest, List<Integer> begun, List<List<Integer>> orders) {
        if (rest.isEmpty()) {
            orders.add(begun);
        }
        for (int i = 0; i < rest.size(); i++) {
            List<Integer> fewer = new ArrayList<>(rest);
            List<Integer> longer = new ArrayList<>(begun);
            longer.add(fewer.remove(i));
            permute(fewer, longer, orders);
        }
    }

    // ---- programs

    private static final class Step {
        String kind;
        int x;
        int y;
        int first = -1;
        int second = -1;
        boolean whileSame;
        int invariant = -1;
    }

    private static final class World {
        final Heapwitness tried = new Heapwitness();
        final List<Said> said = new ArrayList<>();
        final List<Step> steps = new ArrayList<>();
        final Set<Integer> parts = new TreeSet<>();
        int[] came;
        TreeSet<Integer> wrongs;
        boolean isWrong;
        boolean isBroken;
        boolean isLost;
        int begun;
        int sumOfBegun = 0;
        int proofs = 0;
        int proved = 0;

        Set<Integer> namesOf(int before, int root, int after) {
            Set<Integer> names = new TreeSet<>();
            said.get(before).name(names);
            said.get(after).name(names);
            nameStep(root, names);
            return names;
        }

        private void nameStep(int number, Set<Integer> names) {
            Step step = steps.get(number);
            names.add(step.x);
            names.add(step.y);
            if (step.first >= 0) {
                nameStep(step.first, names);
            }
            if (step.second >= 0) {
                nameStep(step.second, names);
            }
            if (step.invariant >= 0) {
                said.get(step.invariant).name(names);
            }
        }

        char proof(int before, int root, int after) {
            came = new int[steps.size()];
            wrongs = new TreeSet<>();
            isWrong = false;
            isBroken = false;
            isLost = false;
            Set<Integer> names = namesOf(before, root, after);
            List<Condition> begin = statesOf(said.get(before), names);
            sumOfBegun += begin.size();
            for (Condition condition : through(root, begin, names)) {
                isLost |= !holdsForAllLengths(said.get(after), condition);
            }
            proofs++;
            char end = isWrong ? 'w' : isBroken ? 'i' : isLost ? 'l' : 'p';
            proved += end == 'p' ? 1 : 0;
            return end;
        }

        /** All conditions that come of some at a statement. */
        private List<Condition> through(int number, List<Condition> come, Set<Integer> names) {
            Step step = steps.get(number);
            came[number] += come.size();
            List<Condition> behind = new ArrayList<>();
            switch (step.kind) {
                case "follow":
                    return through(step.second, through(step.first, come, names), names);
                case "choose":
                    List<Condition> same = new ArrayList<>();
                    List<Condition> unlike = new ArrayList<>();
                    for (Condition condition : come) {
                        (condition.vars[step.x] == condition.vars[step.y] ? same : unlike).add(condition);
                    }
                    behind.addAll(through(step.first, same, names));
                    behind.addAll(through(step.second, unlike, names));
                    return behind;
                case "repeat":
                    return loop(number, step, come, names);
                default:
                    for (Condition condition : come) {
                        simple(number, step, condition, behind);
                    }
                    return behind;
            }
        }

        private List<Condition> loop(int number, Step step, List<Condition> come, Set<Integer> names) {
            List<Condition> behind = new ArrayList<>();
            if (come.isEmpty()) {
                return behind;
            }
            Said invariant = said.get(step.invariant);
            List<Condition> into = new ArrayList<>();
            for (Condition condition : statesOf(invariant, names)) {
                boolean isSame = condition.vars[step.x] == condition.vars[step.y];
                (isSame == step.whileSame ? into : behind).add(condition);
            }
            List<Condition> kept = new ArrayList<>(come);
            kept.addAll(through(step.first, into, names));
            for (Condition condition : kept) {
                if (!holdsForAllLengths(invariant, condition)) {
                    isBroken = true;
                    wrongs.add(number);
                }
            }
            return behind;
        }

        private void simple(int number, Step step, Condition come, List<Condition> behind) {
            Condition condition = come.copy();
            if (step.kind.equals("assign")) {
                condition.vars[step.x] = condition.vars[step.y];
                behind.add(condition);
                return;
            }
            if (step.kind.equals("make")) {
                int place = condition.fresh++;
                condition.vars[step.x] = place;
                condition.pieces.put(place, new Piece(false, 0));
                behind.add(condition);
                return;
            }
            int place = condition.vars[step.kind.equals("load") ? step.y : step.x];
            Piece piece = condition.pieces.get(place);
            if (piece == null) {
                isWrong = true;
                wrongs.add(number);
                return;
            }
            if (piece.isList) {
                Condition longer = condition.copy();
                int second = longer.fresh++;
                longer.pieces.put(place, new Piece(false, second));
                longer.pieces.put(second, new Piece(true, piece.end));
                change(step, longer, place);
                behind.add(longer);
                condition.pieces.put(place, new Piece(false, piece.end));
            }
            change(step, condition, place);
            behind.add(condition);
        }

        private void change(Step step, Condition condition, int place) {
            switch (step.kind) {
                case "load":
                    condition.vars[step.x] = condition.pieces.get(place).end;
                    break;
                case "store":
                    condition.pieces.put(place, new Piece(false, condition.vars[step.y]));
                    break;
                default:
                    condition.pieces.remove(place);
                    break;
            }
        }

        // ---- runs

        private int budget;
        private boolean runsWrong;
        private int freshInRun;

        int[] trial(int before, int root, int after) {
            int found = 0;
            int smallest = -1;
            for (Condition condition : statesOf(said.get(before), namesOf(before, root, after))) {
                for (Map<Integer, Integer> heap : heaps(condition, 2)) {
                    int cells = heap.size();
                    int[] vars = condition.vars.clone();
                    Map<Integer, Integer> changed = new TreeMap<>(heap);
                    budget = 40;
                    runsWrong = false;
                    freshInRun = 1000000;
                    boolean isThrough = run(root, vars, changed);
                    if (runsWrong || isThrough && !holds(said.get(after), vars, changed)) {
                        found++;
                        smallest = smallest < 0 ? cells : Math.min(smallest, cells);
                    }
                }
            }
            return new int[] {found, smallest};
        }

        /** Whether it ends well within the budget. */
        private boolean run(int number, int[] vars, Map<Integer, Integer> heap) {
            if (budget == 0) {
                return false;
            }
            budget--;
            Step step = steps.get(number);
            switch (step.kind) {
                case "follow":
                    return run(step.first, vars, heap) && run(step.second, vars, heap);
                case "choose":
                    return run(vars[step.x] == vars[step.y] ? step.first : step.second, vars, heap);
                case "repeat":
                    while ((vars[step.x] == vars[step.y]) == step.whileSame) {
                        if (!run(step.first, vars, heap)) {
                            return false;
                        }
                    }
                    return true;
                case "assign":
                    vars[step.x] = vars[step.y];
                    return true;
                case "make":
                    vars[step.x] = freshInRun++;
                    heap.put(vars[step.x], 0);
                    return true;
                default:
                    break;
            }
            int place = vars[step.kind.equals("load") ? step.y : step.x];
            if (!heap.containsKey(place)) {
                runsWrong = true;
                return false;
            }
            if (step.kind.equals("load")) {
                vars[step.x] = heap.get(place);
            } else if (step.kind.equals("store")) {
                heap.put(place, vars[step.y]);
            } else {
                heap.remove(place);
            }
            return true;
        }

        // ---- adding to both

        void addPair(int assertion, boolean isFact, boolean mark, int x, int y) {
            if (isFact) {
                tried.addFact(assertion, mark, x, y);
                said.get(assertion).facts.add(new Pair(mark, x, y));
            } else {
                tried.addAtom(assertion, mark, x, y);
                said.get(assertion).atoms.add(new Pair(mark, x, y));
            }
        }

        int addStep(String kind, int x, int y, int first, int second) {
            Step step = new Step();
            step.kind = kind;
            step.x = x;
            step.y = y;
            step.first = first;
            step.second = second;
            return add(step);
        }

        int addLoop(boolean whileSame, int x, int y, int part, int invariant) {
            Step step = new Step();
            step.kind = "repeat";
            step.x = x;
            step.y = y;
            step.first = part;
            step.whileSame = whileSame;
            step.invariant = invariant;
            return add(step);
        }

        private int add(Step step) {
            steps.add(step);
            if (step.first >= 0) {
                parts.add(step.first);
            }
            if (step.second >= 0) {
                parts.add(step.second);
            }
            int number = steps.size() - 1;
            int got;
            switch (step.kind) {
                case "assign": got = tried.assign(step.x, step.y); break;
                case "load": got = tried.load(step.x, step.y); break;
                case "store": got = tried.store(step.x, step.y); break;
                case "make": got = tried.make(step.x); break;
                case "free": got = tried.free(step.x); break;
                case "follow": got = tried.follow(step.first, step.second); break;
                case "choose": got = tried.choose(step.x, step.y, step.first, step.second); break;
                default:
                    got = tried.repeat(step.whileSame, step.x, step.y, step.first, step.invariant);
                    break;
            }
            due("the number of a statement", got, number);
            return number;
        }

        List<Integer> wholes() {
            List<Integer> wholes = new ArrayList<>();
            for (int i = 0; i < steps.size(); i++) {
                if (!parts.contains(i)) {
                    wholes.add(i);
                }
            }
            return wholes;
        }
    }

    // ---- comparing

    private static void due(String what, Object got, Object want) {
        if (!got.equals(want)) {
            wrong++;
            if (wrong < 20) {
                System.out.println(what + " answered " + got + ", due is " + want);
            }
        }
    }

    private static Object answer(java.util.function.Supplier<Object> call) {
        try {
            return call.get();
        } catch (RuntimeException e) {
            return e.getClass().getSimpleName();
        }
    }

    private static void compareAssertions(World world, int seed) {
        for (int a = 0; a < world.said.size(); a++) {
            int one = a;
            Said said = world.said.get(a);
            Set<Integer> names = new TreeSet<>();
            said.name(names);
            List<Condition> states = statesOf(said, names);
            due(seed + " states(" + a + ")", world.tried.states(a), states.size());
            int sum = 0;
            for (Condition condition : states) {
                sum += condition.pieces.size();
            }
            Object mean = states.isEmpty() ? "ArithmeticException" : (Object) ((double) sum / states.size());
            due(seed + " meanAtoms(" + a + ")", answer(() -> world.tried.meanAtoms(one)), mean);
            for (int b = 0; b < world.said.size(); b++) {
                compareTwo(world, a, b, seed + " of " + a + " and " + b);
            }
        }
    }

    private static void compareTwo(World world, int a, int b, String where) {
        Set<Integer> names = new TreeSet<>();
        world.said.get(a).name(names);
        world.said.get(b).name(names);
        int smallest = -1;
        int most = 0;
        boolean isFound = true;
        for (Condition condition : statesOf(world.said.get(a), names)) {
            for (Map<Integer, Integer> heap : heaps(condition, 3)) {
                if (!holds(world.said.get(b), condition.vars, heap) && (smallest < 0 || heap.size() < smallest)) {
                    smallest = heap.size();
                }
            }
            int left = leftOf(condition, world.said.get(b));
            isFound &= left >= 0;
            most = Math.max(most, left);
        }
        due(where + " follows", world.tried.follows(a, b), smallest < 0);
        due(where + " followsByHeaps", world.tried.followsByHeaps(a, b), smallest < 0);
        due(where + " against", answer(() -> world.tried.against(a, b)),
            smallest < 0 ? (Object) "NoSuchElementException" : (Object) smallest);
        due(where + " left", answer(() -> world.tried.left(a, b)),
            isFound ? (Object) most : (Object) "NoSuchElementException");
    }

    /** Tries all choices of pieces: what is left behind the one for which the other assertion holds, or -1. */
    private static int leftOf(Condition condition, Said other) {
        List<Integer> begins = new ArrayList<>(condition.pieces.keySet());
        for (int choice = 0; choice < 1 << begins.size(); choice++) {
            Condition some = condition.copy();
            for (int i = 0; i < begins.size(); i++) {
                if ((choice >> i & 1) == 0) {
                    some.pieces.remove(begins.get(i));
                }
            }
            if (holdsForAllLengths(other, some)) {
                return begins.size() - Integer.bitCount(choice);
            }
        }
        return -1;
    }

    private static String compareProgram(World world, int before, int root, int after, String where) {
        char due = world.proof(before, root, after);
        due(where + " prove", world.tried.prove(before, root, after), due);
        for (int i = 0; i < world.steps.size(); i++) {
            due(where + " cameTo(" + i + ")", world.tried.cameTo(i), world.came[i]);
        }
        due(where + " wrongAt", answer(() -> world.tried.wrongAt()),
            world.wrongs.isEmpty() ? (Object) "NoSuchElementException" : (Object) world.wrongs.first());
        int[] trial = world.trial(before, root, after);
        due(where + " witnesses", world.tried.witnesses(before, root, after), trial[0]);
        due(where + " witness", answer(() -> world.tried.witness(before, root, after)),
            trial[0] == 0 ? (Object) "NoSuchElementException" : (Object) trial[1]);
        due(where + " allStates", world.tried.allStates(), (long) world.sumOfBegun);
        due(where + " provedShare", world.tried.provedShare(), (float) world.proved / (float) world.proofs);
        due(where + " isSound", world.tried.isSound(), true);
        if (due == 'p' && trial[0] > 0) {
            due(where + " is proved, with a witness", trial[0], 0);
        }
        return String.valueOf(due) + (trial[0] > 0 ? '+' : '-');
    }

    // ---- making up

    private static void makeUpAssertion(World world, Random random) {
        due("the number of an assertion", world.tried.addAssertion(), world.said.size());
        world.said.add(new Said());
        int number = world.said.size() - 1;
        int facts = random.nextInt(3) == 0 ? 1 + random.nextInt(2) : 0;
        for (int i = 0; i < facts; i++) {
            world.addPair(number, true, random.nextInt(3) == 0, random.nextInt(5), random.nextInt(5));
        }
        int atoms = random.nextInt(4);
        for (int i = 0; i < atoms; i++) {
            int x = 1 + random.nextInt(4) - (random.nextInt(20) == 0 ? 1 : 0);
            world.addPair(number, false, random.nextInt(3) > 0, x, random.nextInt(2) * random.nextInt(5));
        }
    }

    private static void makeUpStep(World world, Random random) {
        List<Integer> wholes = world.wholes();
        Collections.shuffle(wholes, random);
        int x = 1 + random.nextInt(4);
        int y = random.nextInt(5);
        int kind = random.nextInt(12);
        if (kind < 5 && wholes.size() >= 2) {
            world.addStep("follow", 0, 0, wholes.get(0), wholes.get(1));
        } else if (kind < 7 && wholes.size() >= 2) {
            world.addStep("choose", x, y, wholes.get(0), wholes.get(1));
        } else if (kind < 8 && wholes.size() >= 1) {
            int invariant = random.nextInt(world.said.size());
            world.addLoop(random.nextInt(3) == 0, x, random.nextInt(2) * y, wholes.get(0), invariant);
        } else if (kind == 8) {
            world.addStep("assign", x, y, -1, -1);
        } else if (kind == 9) {
            world.addStep("load", x, 1 + random.nextInt(4), -1, -1);
        } else if (kind == 10) {
            world.addStep(random.nextBoolean() ? "store" : "make", x, 0, -1, -1);
        } else {
            world.addStep(random.nextBoolean() ? "store" : "free", x, 0, -1, -1);
        }
    }

    /** Guarded walks, so that more of the programs go well. */
    private static void makeUpWalk(World world, Random random) {
        int x = 1 + random.nextInt(4);
        int y = 1 + random.nextInt(4);
        int load = world.addStep("load", y, x, -1, -1);
        int act = random.nextBoolean() ? world.addStep("free", x, 0, -1, -1)
            : world.addStep("store", x, 1 + random.nextInt(4), -1, -1);
        int move = world.addStep("assign", x, y, -1, -1);
        int part = world.addStep("follow", 0, 0, world.addStep("follow", 0, 0, load, act), move);
        if (random.nextBoolean()) {
            world.addLoop(false, x, 0, part, random.nextInt(world.said.size()));
        } else {
            world.addStep("choose", x, 0, world.addStep("assign", y, x, -1, -1), part);
        }
    }

    private static void compareOne(int seed, Map<String, Integer> ends) {
        Random random = new Random(seed);
        World world = new World();
        int number = 2 + random.nextInt(4);
        for (int i = 0; i < number; i++) {
            makeUpAssertion(world, random);
        }
        if (seed % 4 == 0) {
            compareAssertions(world, seed);
        }
        int steps = 1 + random.nextInt(24);
        while (world.steps.size() < steps) {
            if (random.nextInt(6) == 0) {
                makeUpWalk(world, random);
            } else {
                makeUpStep(world, random);
            }
        }
        for (int i = 0; i < 4; i++) {
            List<Integer> wholes = world.wholes();
            int root = i < 2 ? wholes.get(wholes.size() - 1) : random.nextInt(world.steps.size());
            String end = compareProgram(world, random.nextInt(number), root, random.nextInt(number), "seed " + seed);
            ends.merge(end, 1, Integer::sum);
        }
    }

    public static void main(String[] args) {
        Map<String, Integer> ends = new TreeMap<>();
        int from = args.length > 0 ? Integer.parseInt(args[0]) : 0;
        int many = args.length > 1 ? Integer.parseInt(args[1]) : MANY;
        for (int seed = from; seed < from + many; seed++) {
            compareOne(seed, ends);
        }
        System.out.println("proofs by their ends, + with a witness: " + ends);
        System.out.println(wrong == 0 ? "all answers are as due" : wrong + " answers are not as due");
        if (wrong != 0) {
            System.exit(1);
        }
    }
}
