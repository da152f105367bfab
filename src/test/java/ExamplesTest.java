/** The four examples at the end of the document's description. */
final class ExamplesTest {
    public static void main(String[] args) {
        propagation();
        bothLiterals();
        division();
        missingTerm();
        Check.finish();
    }

    private static void propagation() {
        PseudoBoolean x = new PseudoBoolean();
        Check.equal("1: post", Check.post(x, "2a + b >= 2"), 0);
        Check.equal("1: post", Check.post(x, "a + c <= 1"), 1);
        Check.fails("1: decide(4)", Check.STATE, () -> x.decide(4));
        Check.equal("1: value(0)", x.value(0), 1);
        Check.no("1: isConflicting", x.isConflicting());
        Check.equal("1: firstModel", x.firstModel(), 1);
    }

    private static void bothLiterals() {
        PseudoBoolean x = new PseudoBoolean();
        Check.equal("2: post", Check.post(x, "3a + 2b >= 4"), 0);
        Check.equal("2: cardinality", x.cardinality(0), 2);
        Check.fails("2: decide(1)", Check.STATE, () -> x.decide(1));
        Check.equal("2: value(1)", x.value(1), 1);
    }

    private static void division() {
        PseudoBoolean x = new PseudoBoolean();
        Check.equal("3: post", Check.post(x, "2a + 2b >= 3"), 0);
        Check.equal("3: quotient", x.quotient(0, 2), 1);
        Check.equal("3: degree", x.degree(1), 2);
        Check.equal("3: firstModel", x.firstModel(), 3);
        Check.equal("3: modelCount", x.modelCount(), 1024);
    }

    private static void missingTerm() {
        PseudoBoolean x = new PseudoBoolean();
        Check.put(x, "a + >= 1");
        Check.fails("4: post", Check.ARGUMENT, x::post);
        Check.equal("4: errorPosition", x.errorPosition(), 4);
        Check.equal("4: constraintCount", x.constraintCount(), 0);
    }
}
