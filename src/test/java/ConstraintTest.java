/** Promises 9 to 21: looking at constraints, and the steps of cutting planes. */
final class ConstraintTest {
    private static final int BILLION = 1000000000;

    public static void main(String[] args) {
        promise9ConstraintCount();
        promise10TermCount();
        promise11Degree();
        promise12Coefficient();
        promise13Slack();
        promise14Cardinality();
        promise15Sum();
        promise16Multiple();
        promise17Quotient();
        promise18Saturation();
        promise19Weakening();
        promise20Resolvent();
        promise20ResolventOfGreatNumbers();
        promise21CardinalityConstraint();
        stepsPropagateAndExcludeModels();
        stepsMakeTheSixtieth();
        stepsRefuseTheSixtyFirst();
        Check.finish();
    }

    private static void promise9ConstraintCount() {
        PseudoBoolean x = new PseudoBoolean();
        Check.equal("at first", x.constraintCount(), 0);
        Check.post(x, "a >= 1");
        Check.equal("after one", x.constraintCount(), 1);
        Check.post(x, "a + b = 1");
        Check.equal("after an equation", x.constraintCount(), 3);
        x.sum(0, 1);
        Check.equal("after a sum", x.constraintCount(), 4);
    }

    private static void promise10TermCount() {
        PseudoBoolean x = Check.with("a + 2~b + c >= 1", "0a >= 0", "a+b+c+d+e+f+g+h+i+j+k+l>=0", "a + ~a + b >= 1");
        Check.equal("three terms", x.termCount(0), 3);
        Check.equal("no terms", x.termCount(1), 0);
        Check.equal("twelve terms", x.termCount(2), 12);
        Check.equal("terms that vanish", x.termCount(3), 1);
        Check.fails("termCount(4)", Check.INDEX, () -> x.termCount(4));
        Check.fails("termCount(-1)", Check.INDEX, () -> x.termCount(-1));
    }

    private static void promise11Degree() {
        PseudoBoolean x = Check.with("a >= 5", "a >= -5", "-a >= 2", "999999a >= 999999");
        Check.equal("as posted", x.degree(0), 5);
        Check.equal("not negative", x.degree(1), 0);
        Check.equal("with a negated term", x.degree(2), 3);
        Check.equal("the greatest of a text", x.degree(3), 999999);
        Check.fails("degree(4)", Check.INDEX, () -> x.degree(4));
        Check.fails("degree(-1)", Check.INDEX, () -> x.degree(-1));
    }

    private static void promise12Coefficient() {
        PseudoBoolean x = Check.with("7a + 3~b + 9l >= 1");
        int[] due = new int[24];
        due[0] = 7;
        due[3] = 3;
        due[22] = 9;
        for (int literal = 0; literal < 24; literal++) {
            Check.equal("coefficient of " + literal, x.coefficient(0, literal), due[literal]);
        }
        Check.fails("literal 24", Check.INDEX, () -> x.coefficient(0, 24));
        Check.fails("literal -1", Check.INDEX, () -> x.coefficient(0, -1));
        Check.fails("constraint 1", Check.INDEX, () -> x.coefficient(1, 0));
        Check.fails("constraint -1", Check.INDEX, () -> x.coefficient(-1, 0));
    }

    private static void promise13Slack() {
        PseudoBoolean x = Check.with("3a + 2b + ~c >= 2", "a+b+c+d+e+f+g+h+i+j+k+l>=1");
        Check.equal("without values", x.slack(0), 4);
        x.decide(1);
        Check.equal("without a", x.slack(0), 1);
        x.decide(4);
        Check.equal("without ~c", x.slack(0), 0);
        Check.equal("b follows", x.value(1), 1);
        x.undo();
        x.undo();
        Check.post(x, "0a >= 1");
        Check.yes("a conflict", x.isConflicting());
        Check.equal("no variable has a value in a conflict", x.slack(0), 4);
        Check.equal("a negative one", x.slack(2), -1);
        x.push();
        Check.post(x, "9a + 9b >= 1");
        x.pop();
        Check.post(x, "a >= 0");
        Check.equal("of a row that is used again", x.slack(3), 1);
        x.multiple(1, 1000);
        x.multiple(4, 1000);
        x.multiple(5, 1000);
        Check.equal("more than an int holds", x.slack(6), 11L * BILLION);
        Check.fails("slack(7)", Check.INDEX, () -> x.slack(7));
        Check.fails("slack(-1)", Check.INDEX, () -> x.slack(-1));
    }

    private static void hasCardinality(String text, int due) {
        PseudoBoolean x = Check.with(text);
        Check.equal("cardinality of " + text, x.cardinality(0), due);
    }

    private static void promise14Cardinality() {
        hasCardinality("3a + 2b >= 4", 2);
        hasCardinality("3a + 2b >= 3", 1);
        hasCardinality("3a + 2b >= 5", 2);
        hasCardinality("3a + 2b >= 6", 3);
        hasCardinality("a + b + c >= 0", 0);
        hasCardinality("0a >= 0", 0);
        hasCardinality("0a >= 1", 1);
        hasCardinality("a + 5~b + 2c + 3~d >= 8", 2);
        hasCardinality("a + 5~b + 2c + 3~d >= 9", 3);
        hasCardinality("2a + 2b + 2c >= 5", 3);
        hasCardinality("a+b+c+d+e+f+g+h+i+j+k+l>=12", 12);
        hasCardinality("a+b+c+d+e+f+g+h+i+j+k+l>=13", 13);
        PseudoBoolean x = Check.with("a + b >= 1");
        x.decide(1);
        Check.equal("values do not count", x.cardinality(0), 1);
        Check.fails("cardinality(1)", Check.INDEX, () -> x.cardinality(1));
        Check.fails("cardinality(-1)", Check.INDEX, () -> x.cardinality(-1));
    }

    private static void promise15Sum() {
        PseudoBoolean x = Check.with("2a + b >= 2", "~a + 3c >= 1", "~a + ~b >= 2");
        Check.equal("its number", x.sum(0, 1), 3);
        Check.equal("opposite literals", Check.written(x, 3), "a + b + 3c >= 2");
        Check.equal("with itself", Check.written(x, x.sum(0, 0)), "4a + 2b >= 4");
        Check.equal("cancelled terms", Check.written(x, x.sum(0, 2)), "a >= 2");
        Check.equal("the order is the same", Check.written(x, x.sum(2, 0)), "a >= 2");
        PseudoBoolean z = Check.with("3a >= 1", "3~a >= 1");
        Check.equal("a degree below 0", Check.written(z, z.sum(0, 1)), "0 >= 0");
        Check.fails("sum(0, 7)", Check.INDEX, () -> x.sum(0, 7));
        Check.fails("sum(7, 0)", Check.INDEX, () -> x.sum(7, 0));
        Check.fails("sum(-1, 0)", Check.INDEX, () -> x.sum(-1, 0));
        Check.fails("sum(0, -1)", Check.INDEX, () -> x.sum(0, -1));

        PseudoBoolean y = Check.with("500000a + b >= 500000", "b >= 0");
        y.multiple(0, 1000);
        Check.equal("10^9", Check.written(y, y.sum(2, 2)), "1000000000a + 2000b >= 1000000000");
        Check.failsLeaving(y, "a coefficient beyond 10^9", Check.ARITHMETIC, () -> y.sum(3, 0));
        y.weakening(3, 0);
        Check.equal("a sum with 0", y.sum(3, 1), 5);
        Check.failsLeaving(y, "twice 10^9", Check.ARITHMETIC, () -> y.sum(3, 3));
        sumNearTheLimit();
    }

    private static void sumNearTheLimit() {
        // The normal form counts: the terms cancel out, and with them the degree is small enough.
        PseudoBoolean x = Check.with("500000a >= 500000", "500000~a >= 500000", "a >= 1", "0a >= 1");
        x.multiple(0, 1000);
        x.multiple(1, 1000);
        Check.equal("10^9 in the middle", Check.written(x, x.sum(4, 5)), "0 >= 500000000");
        Check.equal("twice as much", Check.written(x, x.sum(4, 4)), "1000000000a >= 1000000000");
        Check.failsLeaving(x, "1 more", Check.ARITHMETIC, () -> x.sum(7, 2));
        Check.failsLeaving(x, "a degree of 1 more", Check.ARITHMETIC, () -> x.sum(7, 3));
        Check.equal("a part less", Check.written(x, x.sum(7, 5)), "500000000a >= 1000000000");
    }

    private static void promise16Multiple() {
        PseudoBoolean x = Check.with("2a + ~b >= 2", "0a >= 0");
        Check.equal("its number", x.multiple(0, 3), 2);
        Check.equal("three times", Check.written(x, 2), "6a + 3~b >= 6");
        Check.equal("once", Check.written(x, x.multiple(0, 1)), "2a + ~b >= 2");
        Check.equal("a thousand times", Check.written(x, x.multiple(0, 1000)), "2000a + 1000~b >= 2000");
        Check.equal("nothing", Check.written(x, x.multiple(1, 1000)), "0 >= 0");
        Check.failsLeaving(x, "factor 0", Check.ARGUMENT, () -> x.multiple(0, 0));
        Check.failsLeaving(x, "factor -1", Check.ARGUMENT, () -> x.multiple(0, -1));
        Check.failsLeaving(x, "factor 1001", Check.ARGUMENT, () -> x.multiple(0, 1001));
        Check.fails("no constraint", Check.INDEX, () -> x.multiple(6, 1));
        Check.fails("no constraint and a wrong factor", Check.INDEX, () -> x.multiple(-1, 0));

        PseudoBoolean y = Check.with("1000a >= 1", "a >= 1000", "1001a >= 1", "a >= 1001");
        y.multiple(0, 1000);
        y.multiple(1, 1000);
        Check.equal("10^9 as coefficient", Check.written(y, y.multiple(4, 1000)), "1000000000a >= 1000000");
        Check.equal("10^9 as degree", Check.written(y, y.multiple(5, 1000)), "1000000a >= 1000000000");
        y.multiple(2, 1000);
        y.multiple(3, 1000);
        Check.failsLeaving(y, "a greater coefficient", Check.ARITHMETIC, () -> y.multiple(8, 1000));
        Check.failsLeaving(y, "a greater degree", Check.ARITHMETIC, () -> y.multiple(9, 1000));
        Check.failsLeaving(y, "10^12", Check.ARITHMETIC, () -> y.multiple(6, 1000));
        Check.equal("nothing was added", y.constraintCount(), 10);
    }

    private static void promise17Quotient() {
        PseudoBoolean x = Check.with("2a + 3~b + 4c >= 5", "a + b >= 0");
        Check.equal("its number", x.quotient(0, 2), 2);
        Check.equal("halves", Check.written(x, 2), "a + 2~b + 2c >= 3");
        Check.equal("by 1", Check.written(x, x.quotient(0, 1)), "2a + 3~b + 4c >= 5");
        Check.equal("by 5", Check.written(x, x.quotient(0, 5)), "a + ~b + c >= 1");
        Check.equal("by the greatest int", Check.written(x, x.quotient(0, Integer.MAX_VALUE)), "a + ~b + c >= 1");
        Check.equal("degree 0", Check.written(x, x.quotient(1, 7)), "a + b >= 0");
        Check.failsLeaving(x, "divisor 0", Check.ARGUMENT, () -> x.quotient(0, 0));
        Check.failsLeaving(x, "divisor -1", Check.ARGUMENT, () -> x.quotient(0, -1));
        Check.failsLeaving(x, "the least int", Check.ARGUMENT, () -> x.quotient(0, Integer.MIN_VALUE));
        Check.fails("no constraint", Check.INDEX, () -> x.quotient(7, 1));
        Check.fails("no constraint and a wrong divisor", Check.INDEX, () -> x.quotient(-1, 0));
        PseudoBoolean y = Check.with("1000a + 999b >= 1000");
        y.multiple(0, 1000);
        y.multiple(1, 1000);
        Check.equal("10^9 by 10^9", Check.written(y, y.quotient(2, BILLION)), "a + b >= 1");
        Check.equal("10^9 by 10^9 - 1", Check.written(y, y.quotient(2, BILLION - 1)), "2a + b >= 2");
    }

    private static void promise18Saturation() {
        PseudoBoolean x = Check.with("5a + 3~b + c >= 3", "5a + b >= 0", "a + b >= 2");
        Check.equal("its number", x.saturation(0), 3);
        Check.equal("greater ones", Check.written(x, 3), "3a + 3~b + c >= 3");
        Check.equal("degree 0", Check.written(x, x.saturation(1)), "0 >= 0");
        Check.equal("nothing to do", Check.written(x, x.saturation(2)), "a + b >= 2");
        Check.fails("no constraint", Check.INDEX, () -> x.saturation(6));
        Check.fails("constraint -1", Check.INDEX, () -> x.saturation(-1));
    }

    private static void promise19Weakening() {
        PseudoBoolean x = Check.with("5a + 3~b + c >= 6", "9l >= 4");
        Check.equal("its number", x.weakening(0, 0), 2);
        Check.equal("without a", Check.written(x, 2), "3~b + c >= 1");
        Check.equal("without ~b", Check.written(x, x.weakening(0, 1)), "5a + c >= 3");
        Check.equal("a negative degree", Check.written(x, x.weakening(1, 11)), "0 >= 0");
        PseudoBoolean y = Check.with("~a + ~l >= 2");
        Check.equal("a negated literal", Check.written(y, y.weakening(0, 0)), "~l >= 1");
        Check.equal("of the last variable", Check.written(y, y.weakening(0, 11)), "~a >= 1");
        Check.failsLeaving(x, "no literal of d", Check.ARGUMENT, () -> x.weakening(0, 3));
        Check.failsLeaving(x, "no literal of a", Check.ARGUMENT, () -> x.weakening(1, 0));
        Check.fails("variable 12", Check.INDEX, () -> x.weakening(0, 12));
        Check.fails("variable -1", Check.INDEX, () -> x.weakening(0, -1));
        Check.fails("constraint 5", Check.INDEX, () -> x.weakening(5, 0));
        Check.fails("constraint -1", Check.INDEX, () -> x.weakening(-1, 0));
    }

    private static void promise20Resolvent() {
        PseudoBoolean x = Check.with("4a + b >= 3", "6~a + 2c >= 5", "~a + ~b >= 1", "d >= 1");
        Check.equal("its number", x.resolvent(0, 1, 0), 4);
        Check.equal("by 3 and 2", Check.written(x, 4), "3b + 4c >= 7");
        Check.equal("the other order", Check.written(x, x.resolvent(1, 0, 0)), "3b + 4c >= 7");
        Check.equal("two variables go", Check.written(x, x.resolvent(0, 2, 0)), "3~b >= 2");
        Check.equal("by the other variable", Check.written(x, x.resolvent(0, 2, 1)), "3a >= 2");
        Check.failsLeaving(x, "the same literal", Check.ARGUMENT, () -> x.resolvent(1, 2, 0));
        Check.failsLeaving(x, "itself", Check.ARGUMENT, () -> x.resolvent(0, 0, 0));
        Check.failsLeaving(x, "only one has it", Check.ARGUMENT, () -> x.resolvent(0, 3, 0));
        Check.failsLeaving(x, "only the other has it", Check.ARGUMENT, () -> x.resolvent(3, 0, 0));
        Check.failsLeaving(x, "none has it", Check.ARGUMENT, () -> x.resolvent(0, 1, 11));
        Check.fails("variable 12", Check.INDEX, () -> x.resolvent(0, 1, 12));
        Check.fails("variable -1", Check.INDEX, () -> x.resolvent(0, 1, -1));
        Check.fails("constraint 8", Check.INDEX, () -> x.resolvent(0, 8, 0));
        Check.fails("constraint -1", Check.INDEX, () -> x.resolvent(-1, 0, 0));
    }

    /** A constraint with 10^9 as every coefficient, and one with 999999000 + 999 of the opposite literals. */
    private static void promise20ResolventOfGreatNumbers() {
        StringBuilder ones = new StringBuilder();
        StringBuilder most = new StringBuilder();
        StringBuilder rest = new StringBuilder();
        for (char c = 'a'; c <= 'l'; c++) {
            ones.append(c == 'a' ? "" : "+").append("1000").append(c);
            most.append(c == 'a' ? "" : "+").append("999999~").append(c);
            rest.append(c == 'a' ? "" : "+").append("999~").append(c);
        }
        PseudoBoolean x = Check.with(ones + ">=1000", most + ">=999999", rest + ">=999");
        x.multiple(0, 1000);
        x.multiple(3, 1000);
        x.multiple(1, 1000);
        x.sum(5, 2);
        Check.equal("10^9", x.coefficient(4, 22), BILLION);
        Check.equal("10^9 - 1", x.coefficient(6, 23), BILLION - 1);
        // All terms cancel out; the degree falls from 2 * 10^18 by 12 * 10^18, more than 64 bits hold.
        Check.equal("all cancels out", Check.written(x, x.resolvent(4, 6, 0)), "0 >= 0");
        Check.equal("in the other order", Check.written(x, x.resolvent(6, 4, 11)), "0 >= 0");

        PseudoBoolean y = Check.with("1000a + b >= 1000", "999999~a + c >= 1", "999~a >= 1", "a >= 1");
        y.multiple(0, 1000);
        y.multiple(4, 1000);
        y.multiple(1, 1000);
        y.sum(6, 2);
        Check.failsLeaving(y, "10^6 times 10^9", Check.ARITHMETIC, () -> y.resolvent(5, 7, 0));
        Check.equal("times 999999999", Check.written(y, y.resolvent(3, 7, 0)), "1000c >= 1001");
        Check.equal(
                "by a common divisor",
                Check.written(y, y.resolvent(4, 6, 0)),
                "999999000b + 1000000c >= 1000000");
    }

    private static void promise21CardinalityConstraint() {
        PseudoBoolean x = Check.with("3a + 2~b + l >= 4", "a >= 0", "2a >= 3", "0a >= 1");
        Check.equal("its number", x.cardinalityConstraint(0), 4);
        Check.equal("at least two", Check.written(x, 4), "a + ~b + l >= 2");
        Check.equal("at least none", Check.written(x, x.cardinalityConstraint(1)), "a >= 0");
        Check.equal("more than there are", Check.written(x, x.cardinalityConstraint(2)), "a >= 2");
        Check.equal("no literals", Check.written(x, x.cardinalityConstraint(3)), "0 >= 1");
        Check.fails("no constraint", Check.INDEX, () -> x.cardinalityConstraint(8));
        Check.fails("constraint -1", Check.INDEX, () -> x.cardinalityConstraint(-1));
    }

    /** A new constraint counts at once, for the values and for the models. */
    private static void stepsPropagateAndExcludeModels() {
        PseudoBoolean x = Check.with("2a + 2b >= 3");
        Check.equal("a already follows", x.value(0), 1);
        PseudoBoolean y = Check.with("2a + 2b + 2c >= 3", "a + c <= 1");
        Check.equal("b is open", y.value(1), -1);
        y.quotient(0, 2);
        Check.equal("b is still open", y.value(1), -1);
        y.sum(2, 1);
        Check.equal("b follows from the new ones", y.value(1), 1);
        Check.equal("the models", y.modelCount(), 1024);
        y.decide(0);
        Check.equal("a post behind a decision", Check.post(y, "a + d <= 1"), 4);
        Check.equal("d is false", y.value(3), 0);
        Check.equal("no conflict", y.isConflicting() ? 1 : 0, 0);
        Check.post(y, "a <= 0");
        Check.yes("a conflict", y.isConflicting());
        Check.equal("no values", y.value(3), -1);
        Check.equal("no models with a", y.firstModel(), -1);
        y.undo();
        Check.no("no conflict without a", y.isConflicting());
        Check.equal("a is false", y.value(0), 0);
    }

    private static void stepsMakeTheSixtieth() {
        PseudoBoolean x = Check.with("2a + b >= 1", "~a + c >= 1");
        x.group(0);
        while (x.constraintCount() < 59) {
            x.multiple(0, 2);
        }
        Check.Call[] steps = {
            () -> x.sum(0, 1),
            () -> x.multiple(0, 1),
            () -> x.quotient(0, 1),
            () -> x.saturation(0),
            () -> x.weakening(0, 0),
            () -> x.resolvent(0, 1, 0),
            () -> x.cardinalityConstraint(0),
            x::addGroup
        };
        for (int i = 0; i < steps.length; i++) {
            x.push();
            Check.equal("step " + i + " at 59", steps[i].answer(), 59);
            x.pop();
        }
    }

    private static void stepsRefuseTheSixtyFirst() {
        PseudoBoolean x = Check.with("2a + b >= 1", "~a + c >= 1");
        x.group(0);
        while (x.constraintCount() < 60) {
            x.multiple(0, 2);
        }
        Check.failsLeaving(x, "sum at 60", Check.STATE, () -> x.sum(0, 1));
        Check.failsLeaving(x, "multiple at 60", Check.STATE, () -> x.multiple(0, 1));
        Check.failsLeaving(x, "quotient at 60", Check.STATE, () -> x.quotient(0, 1));
        Check.failsLeaving(x, "saturation at 60", Check.STATE, () -> x.saturation(0));
        Check.failsLeaving(x, "weakening at 60", Check.STATE, () -> x.weakening(0, 0));
        Check.failsLeaving(x, "resolvent at 60", Check.STATE, () -> x.resolvent(0, 1, 0));
        Check.failsLeaving(x, "cardinalityConstraint at 60", Check.STATE, () -> x.cardinalityConstraint(0));
        Check.failsLeaving(x, "addGroup at 60", Check.STATE, x::addGroup);
        Check.fails("the index comes first", Check.INDEX, () -> x.sum(60, 0));
        Check.fails("the factor comes first", Check.ARGUMENT, () -> x.multiple(0, 1001));
        Check.fails("the divisor comes first", Check.ARGUMENT, () -> x.quotient(0, 0));
        Check.fails("the literal comes first", Check.ARGUMENT, () -> x.weakening(0, 5));
        Check.fails("the literals come first", Check.ARGUMENT, () -> x.resolvent(0, 1, 1));
        Check.fails("saturation(60)", Check.INDEX, () -> x.saturation(60));
        Check.fails("cardinalityConstraint(-1)", Check.INDEX, () -> x.cardinalityConstraint(-1));
        Check.equal("60 are kept", x.constraintCount(), 60);
        Check.equal("the last can be used", x.degree(59), 2);

        PseudoBoolean y = Check.with("999999a >= 1");
        y.multiple(0, 1000);
        while (y.constraintCount() < 60) {
            y.saturation(0);
        }
        Check.fails("the limit comes before a sum too great", Check.STATE, () -> y.sum(1, 1));
        Check.fails("the limit comes before a multiple too great", Check.STATE, () -> y.multiple(1, 1000));
    }
}
