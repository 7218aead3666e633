import java.lang.reflect.Constructor;
import java.lang.reflect.Field;

/**
 * isSound() is true as long as the class is right, so it is spoiled here from the inside: heaps are not built, or a
 * proof that did not end well is made to seem so. The fields are told by their names in the class.
 */
public final class SoundTests extends Check {
    private static Field field(Object of, String name) throws ReflectiveOperationException {
        Field field = of.getClass().getDeclaredField(name);
        field.setAccessible(true);
        return field;
    }

    /** From now on no heaps are built, so that all seems to follow by heaps. */
    private static void spoilHeaps(Heapwitness x) throws ReflectiveOperationException {
        Object decider = field(x, "decider").get(x);
        Constructor<?> maker = decider.getClass().getDeclaredConstructor();
        maker.setAccessible(true);
        Object heaps = field(x, "heaps").get(x);
        field(heaps, "decider").set(heaps, maker.newInstance());
    }

    /** The last proof ended with 'p', as it seems now. */
    private static void spoilProof(Heapwitness x) throws ReflectiveOperationException {
        Object proof = field(x, "proof").get(x);
        for (String name : new String[] {"isWrong", "isBroken", "isLost"}) {
            field(proof, name).setBoolean(proof, false);
        }
    }

    /** Asks a prover with these assertions, after it was sound, without heaps. */
    private static Call withoutHeaps(String... texts) throws ReflectiveOperationException {
        Heapwitness x = new Heapwitness();
        for (String text : texts) {
            assertion(x, text);
        }
        due("sound at first", () -> x.isSound(), true);
        spoilHeaps(x);
        return () -> x.isSound();
    }

    /** "for the last two assertions, each one and the other, following is the same by both ways" */
    private static void bothWays() throws ReflectiveOperationException {
        due("the same without heaps", withoutHeaps("1.0", "1.0"), true);
        due("the last one does not follow", withoutHeaps("1.0", "1#1"), false);
        due("the one before it does not follow", withoutHeaps("1#1", "1.0"), false);
        due("neither follows", withoutHeaps("1.0", "2.0"), false);
        due("the last two alone", withoutHeaps("1#1", "1.0", "1.0"), true);
        due("the last two of three", withoutHeaps("1.0", "1.0", "1#1"), false);
        due("one alone", withoutHeaps("1.0"), true);
        due("none", withoutHeaps(), true);
        due("two that say nothing", withoutHeaps("", ""), true);
    }

    private static final class Spoiled {
        final Heapwitness x = new Heapwitness();
        final int any = assertion(x, "1=1");
        final int nil = assertion(x, "1=0");
        final int step = x.assign(1, 1);

        Spoiled() throws ReflectiveOperationException {
            due("it is lost", () -> x.prove(any, step, nil), 'l');
            due("sound, as it is not proved", () -> x.isSound(), true);
            spoilProof(x);
        }
    }

    /** "if the last proof ended with 'p', and no fact or atom was added since, there is no witness" */
    private static void proofs() throws ReflectiveOperationException {
        Heapwitness x = new Spoiled().x;
        due("a witness against what seems proved", () -> x.isSound(), false);
        x.make(1);
        x.addAssertion();
        x.addAssertion();
        due("statements and assertions do not matter", () -> x.isSound(), false);
        due("refused", () -> x.addFact(0, true, 5, 0), ARGUMENT);
        due("refused, too", () -> x.addAtom(4, true, 0, 0), INDEX);
        due("what is refused does not matter", () -> x.isSound(), false);
        due("a fact", () -> x.addFact(3, true, 0, 0), 1);
        due("is a reason not to look", () -> x.isSound(), true);
        Heapwitness y = new Spoiled().x;
        due("an atom", () -> y.addAtom(1, true, 0, 0), 1);
        due("is a reason not to look, either", () -> y.isSound(), true);
        y.prove(0, 0, 1);
        spoilProof(y);
        due("but not if a proof was made since", () -> y.isSound(), false);
        Heapwitness z = new Spoiled().x;
        due("a proof that is refused", () -> z.prove(0, 0, 2), INDEX);
        due("is none", () -> z.isSound(), false);
        due("the last proof alone", () -> z.prove(1, 0, 0), 'p');
        due("matters", () -> z.isSound(), true);
        Heapwitness one = new Heapwitness();
        one.addAssertion();
        one.free(0);
        due("wrong", () -> one.prove(0, 0, 0), 'w');
        spoilProof(one);
        due("with one assertion", () -> one.isSound(), false);
    }

    public static void main(String[] args) throws ReflectiveOperationException {
        bothWays();
        proofs();
        tell();
    }
}
