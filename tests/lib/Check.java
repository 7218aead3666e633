import java.util.Objects;

/** What the tests share: a call and the answer that is due, assertions from short texts, and programs in a row. */
class Check {
    interface Call {
        Object answer();
    }

    static final String INDEX = "throws.IndexOutOfBoundsException";
    static final String ARGUMENT = "throws.IllegalArgumentException";
    static final String STATE = "throws.IllegalStateException";
    static final String PART = "throws.UnsupportedOperationException";
    static final String NO_ELEMENT = "throws.NoSuchElementException";
    static final String ARITHMETIC = "throws.ArithmeticException";

    private static final int SHOWN = 40;
    private static int wrong = 0;

    static Object answerOf(Call call) {
        try {
            return call.answer();
        } catch (RuntimeException e) {
            return "throws." + e.getClass().getSimpleName();
        }
    }

    static void due(String what, Call call, Object want) {
        Object got = answerOf(call);
        if (!Objects.equals(got, want)) {
            wrong++;
            if (wrong <= SHOWN) {
                System.out.println(what + " answered " + got + ", due is " + want);
            }
        }
    }

    /** Ends the test, with exit code 1 if an answer was not the one that is due. */
    static void tell() {
        System.out.println(wrong == 0 ? "all answers are as due" : wrong + " answers are not as due");
        if (wrong != 0) {
            System.exit(1);
        }
    }

    /** An assertion from a text such as "1=2 1#0 1.2 3-0": facts, a cell from 1 to 2, a list from 3 to nil. */
    static int assertion(Heapwitness x, String text) {
        int number = x.addAssertion();
        for (String word : text.split(" ")) {
            if (!word.isEmpty()) {
                int left = word.charAt(0) - '0';
                int right = word.charAt(2) - '0';
                char sign = word.charAt(1);
                if (sign == '=' || sign == '#') {
                    x.addFact(number, sign == '=', left, right);
                } else {
                    x.addAtom(number, sign == '-', left, right);
                }
            }
        }
        return number;
    }

    /** Statements that follow each other, the first one first. */
    static int inRow(Heapwitness x, int... numbers) {
        int whole = numbers[0];
        for (int i = 1; i < numbers.length; i++) {
            whole = x.follow(whole, numbers[i]);
        }
        return whole;
    }

    static int statesOf(String text) {
        Heapwitness x = new Heapwitness();
        return x.states(assertion(x, text));
    }

    static double meanOf(String text) {
        Heapwitness x = new Heapwitness();
        return x.meanAtoms(assertion(x, text));
    }

    static boolean followsFrom(String one, String other) {
        Heapwitness x = new Heapwitness();
        return x.follows(assertion(x, one), assertion(x, other));
    }

    static boolean followsByHeapsFrom(String one, String other) {
        Heapwitness x = new Heapwitness();
        return x.followsByHeaps(assertion(x, one), assertion(x, other));
    }

    static int againstOf(String one, String other) {
        Heapwitness x = new Heapwitness();
        return x.against(assertion(x, one), assertion(x, other));
    }

    static int leftOf(String one, String other) {
        Heapwitness x = new Heapwitness();
        return x.left(assertion(x, one), assertion(x, other));
    }
}
