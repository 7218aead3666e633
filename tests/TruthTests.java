import java.util.Arrays;
import java.util.HashSet;
import java.util.Random;
import java.util.Set;

/**
 * States and following against the words of the document alone: all variables and all heaps with few places are
 * gone through, and an assertion holds or not by its cells. Assertions come from a fixed seed.
 */
public final class TruthTests {
    private static int wrong = 0;

    /** Rows of mark, x, y. */
    private static final class Said {
        int[][] facts = new int[0][];
        int[][] atoms = new int[0][];
        /** For each world whether it holds there. */
        boolean[] holds;
    }

    private static void due(String what, Object got, Object want) {
        if (!got.equals(want)) {
            wrong++;
            System.out.println(what + " answered " + got + ", due is " + want);
        }
    }

    private static boolean holds(Said said, int[] vars, int[] heap) {
        for (int[] fact : said.facts) {
            if ((vars[fact[1]] == vars[fact[2]]) != (fact[0] == 1)) {
                return false;
            }
        }
        int given = 0;
        for (int[] atom : said.atoms) {
            int at = vars[atom[1]];
            int end = vars[atom[2]];
            if (atom[0] == 0 && (heap[at] != end || (given >> at & 1) != 0)) {
                return false;
            }
            if (atom[0] == 0) {
                given |= 1 << at;
            }
            while (atom[0] == 1 && at != end) {
                // a place that was given already, to this atom or to another one, can not be given again
                if (heap[at] < 0 || (given >> at & 1) != 0) {
                    return false;
                }
                given |= 1 << at;
                at = heap[at];
            }
        }
        for (int place = 1; place < heap.length; place++) {
            if ((heap[place] >= 0) != ((given >> place & 1) != 0)) {
                return false;
            }
        }
        return true;
    }

    /** What is the same, and for each place that is named what is the next one that is named. */
    private static String view(int[] vars, int[] heap) {
        int[] names = new int[heap.length];
        Arrays.fill(names, -1);
        StringBuilder text = new StringBuilder();
        for (int v = 0; v < vars.length; v++) {
            if (names[vars[v]] < 0) {
                names[vars[v]] = v;
            }
            text.append(names[vars[v]]).append(' ');
        }
        for (int v = 0; v < vars.length; v++) {
            int at = heap[vars[v]];
            for (int i = 0; i < heap.length && at > 0 && names[at] < 0; i++) {
                at = heap[at];
            }
            text.append(at < 0 ? -1 : names[at]).append(',');
        }
        return text.toString();
    }

    private static int power(int base, int exponent) {
        int product = 1;
        for (int i = 0; i < exponent; i++) {
            product *= base;
        }
        return product;
    }

    private static Said makeUp(Heapwitness x, Random random, int names) {
        Said said = new Said();
        int number = x.addAssertion();
        said.facts = new int[random.nextInt(3) == 0 ? 1 + random.nextInt(2) : 0][];
        for (int i = 0; i < said.facts.length; i++) {
            said.facts[i] = new int[] {random.nextInt(2), random.nextInt(names + 1), random.nextInt(names + 1)};
            x.addFact(number, said.facts[i][0] == 1, said.facts[i][1], said.facts[i][2]);
        }
        said.atoms = new int[random.nextInt(4)][];
        for (int i = 0; i < said.atoms.length; i++) {
            int from = random.nextInt(10) == 0 ? 0 : 1 + random.nextInt(names);
            said.atoms[i] = new int[] {random.nextInt(4) > 0 ? 1 : 0, from, random.nextInt(names + 1)};
            x.addAtom(number, said.atoms[i][0] == 1, said.atoms[i][1], said.atoms[i][2]);
        }
        // the variables stand in all of them, so that all are decided for the same ones
        for (int v = 1; v <= names; v++) {
            x.addFact(number, true, v, v);
        }
        return said;
    }

    private static void compare(int seed, int names, int places) {
        Random random = new Random(seed);
        Heapwitness x = new Heapwitness();
        Said[] all = new Said[6];
        int partings = power(places + 1, names);
        int worlds = power(places + 2, places) * partings;
        for (int a = 0; a < all.length; a++) {
            all[a] = makeUp(x, random, names);
            all[a].holds = new boolean[worlds];
        }
        int[] vars = new int[names + 1];
        int[] heap = new int[places + 1];
        int[] cells = new int[worlds];
        heap[0] = -1;
        Set<String>[] views = views(all.length);
        for (int world = 0; world < worlds; world++) {
            int code = world;
            for (int v = 1; v <= names; v++) {
                vars[v] = code % (places + 1);
                code /= places + 1;
            }
            for (int place = 1; place <= places; place++) {
                heap[place] = code % (places + 2) - 1;
                cells[world] += heap[place] >= 0 ? 1 : 0;
                code /= places + 2;
            }
            for (int a = 0; a < all.length; a++) {
                all[a].holds[world] = holds(all[a], vars, heap);
                if (all[a].holds[world]) {
                    views[a].add(view(vars, heap));
                }
            }
        }
        for (int a = 0; a < all.length; a++) {
            due("seed " + seed + " states(" + a + ")", x.states(a), views[a].size());
            // with more names a smallest heap can need more places
            for (int b = 0; b < all.length && names < 4; b++) {
                int smallest = Integer.MAX_VALUE;
                for (int world = 0; world < worlds; world++) {
                    if (all[a].holds[world] && !all[b].holds[world]) {
                        smallest = Math.min(smallest, cells[world]);
                    }
                }
                compareTwo(x, a, b, smallest, "seed " + seed + " of " + a + " and " + b);
            }
        }
    }

    @SuppressWarnings("unchecked")
    private static Set<String>[] views(int number) {
        Set<String>[] views = (Set<String>[]) new Set<?>[number];
        for (int i = 0; i < number; i++) {
            views[i] = new HashSet<>();
        }
        return views;
    }

    private static void compareTwo(Heapwitness x, int a, int b, int smallest, String where) {
        boolean isTrue = smallest == Integer.MAX_VALUE;
        due(where + " follows", x.follows(a, b), isTrue);
        due(where + " followsByHeaps", x.followsByHeaps(a, b), isTrue);
        if (!isTrue) {
            due(where + " against", x.against(a, b), smallest);
        }
    }

    public static void main(String[] args) {
        for (int seed = 0; seed < 60; seed++) {
            compare(seed, 2, 4);
        }
        for (int seed = 100; seed < 130; seed++) {
            compare(seed, 3, 4);
        }
        for (int seed = 200; seed < 206; seed++) {
            compare(seed, 4, 4);
        }
        System.out.println(wrong == 0 ? "all answers are as due" : wrong + " answers are not as due");
        if (wrong != 0) {
            System.exit(1);
        }
    }
}
