import java.io.IOException;
import java.nio.file.Files;
import java.nio.file.Path;

/** The example of README.md, line by line, answers what it says there. */
public final class ReadmeTests extends Check {
    private static final Path README = Path.of("README.md");
    private static final Path SELF = Path.of("tests", "ReadmeTests.java");

    private static void example() {
        Heapwitness x = new Heapwitness();
        int list = x.addAssertion();
        x.addAtom(list, true, 1, 0);
        int empty = x.addAssertion();
        int full = x.addAssertion();
        x.addAtom(full, true, 1, 0);
        x.addFact(full, false, 1, 0);

        due("states", () -> x.states(list), 2);
        due("follows", () -> x.follows(full, list), true);
        due("followsByHeaps", () -> x.followsByHeaps(list, full), false);
        due("against", () -> x.against(list, full), 0);
        due("left", () -> x.left(full, empty), 1);

        int next = x.load(2, 1);
        int free = x.free(1);
        int step = x.assign(1, 2);
        int part = x.follow(x.follow(next, free), step);
        int loop = x.repeat(false, 1, 0, part, list);
        due("prove", () -> x.prove(list, loop, empty), 'p');
        due("cameTo", () -> x.cameTo(free), 8);
        due("isSound", () -> x.isSound(), true);

        int late = x.follow(x.free(1), x.load(1, 1));
        due("prove what is wrong", () -> x.prove(full, late, list), 'w');
        due("wrongAt", () -> x.wrongAt(), 7);
        due("witness", () -> x.witness(full, late, list), 1);
        due("witnesses", () -> x.witnesses(full, late, list), 2);
        due("provedShare", () -> x.provedShare(), 0.5f);
    }

    /** Whether all lines of the example stand here, with the answers that it tells behind them. */
    private static void isTheSame() throws IOException {
        String self = Files.readString(SELF);
        String text = Files.readString(README);
        String code = text.substring(text.indexOf("```java") + 7);
        for (String line : code.substring(0, code.indexOf("```")).split("\n")) {
            int comment = line.indexOf("//");
            String call = (comment < 0 ? line : line.substring(0, comment)).trim();
            boolean isTold = comment >= 0 && line.indexOf(':', comment) >= 0;
            String want = isTold ? line.substring(comment + 3, line.indexOf(':', comment)) : "";
            String due = isTold ? "() -> " + call.replace(";", ", ") + want + ");" : call;
            due("README: " + line, () -> self.contains(due), true);
        }
    }

    public static void main(String[] args) throws IOException {
        example();
        isTheSame();
        tell();
    }
}
