/** The edges of promises 9 to 21: looking at constraints, and the steps of cutting planes. */
final class ConstraintEdgesTest {
    private static final int BILLION = 1000000000;
    private static final String ALL = "a+b+c+d+e+f+g+h+i+j+k+l";

    public static void main(String[] args) {
        Check.runPromises(ConstraintEdgesTest.class);
    }

    private interface Step {
        int add();
    }

    /** Expects that a step adds this constraint with the next number. */
    private static void adds(PseudoBoolean x, String what, String due, Step step) {
        int number = x.constraintCount();
        Check.equal(what, step.add(), number);
        Check.equal("constraints behind " + what, x.constraintCount(), number + 1);
        Check.equal(what, Check.written(x, number), due);
    }

    private static void tooGreat(PseudoBoolean x, String what, Step step) {
        Check.failsLeaving(x, what, Check.ARITHMETIC, step::add);
    }

    private static PseudoBoolean sixty() {
        PseudoBoolean x = Check.with("a + b >= 1");
        while (x.constraintCount() < 60) {
            x.multiple(0, 1);
        }
        return x;
    }

    /** Adds a constraint of one term; its numbers are up to 10^9, made of parts that a text can name. */
    private static int postGreat(PseudoBoolean x, String literal, int coefficient, int degree) {
        int part = Check.post(x, coefficient / 2000 + literal + " >= " + degree / 2000);
        int half = x.multiple(part, 1000);
        int whole = x.sum(half, half);
        int rest = Check.post(x, coefficient % 2000 + literal + " >= " + degree % 2000);
        return x.sum(whole, rest);
    }

    // ---- constraintCount, termCount, degree, coefficient

    static void promise09ConstraintCountFrom0To60() {
        Check.equal("at first", new PseudoBoolean().constraintCount(), 0);
        PseudoBoolean x = sixty();
        Check.equal("at the limit", x.constraintCount(), 60);
        Check.put(x, "a >= 1");
        Check.fails("one more", Check.STATE, x::post);
        Check.equal("at the limit still", x.constraintCount(), 60);
    }

    static void promise09ConstraintCountBackTo0() {
        PseudoBoolean x = new PseudoBoolean();
        x.push();
        Check.post(x, "a = 1");
        Check.equal("two", x.constraintCount(), 2);
        x.pop();
        Check.equal("none", x.constraintCount(), 0);
    }

    static void promise10TermCountFrom0To12() {
        PseudoBoolean x = Check.with("0a >= 0", "~l >= 1", ALL + " >= 1");
        Check.equal("none", x.termCount(0), 0);
        Check.equal("one", x.termCount(1), 1);
        Check.equal("twelve", x.termCount(2), 12);
    }

    static void promise10TermCountOfTheFirstAndTheLastConstraint() {
        PseudoBoolean x = sixty();
        Check.equal("of 0", x.termCount(0), 2);
        Check.equal("of 59", x.termCount(59), 2);
        Check.fails("of 60", Check.INDEX, () -> x.termCount(60));
        Check.fails("of -1", Check.INDEX, () -> x.termCount(-1));
    }

    static void promise11DegreeOfTheFirstAndTheLastConstraint() {
        PseudoBoolean x = sixty();
        Check.equal("of 0", x.degree(0), 1);
        Check.equal("of 59", x.degree(59), 1);
        Check.fails("of 60", Check.INDEX, () -> x.degree(60));
        Check.fails("of -1", Check.INDEX, () -> x.degree(-1));
    }

    static void promise11DegreeFrom0ToABillion() {
        PseudoBoolean x = Check.with("a >= 0", "a >= -1");
        Check.equal("0", x.degree(0), 0);
        Check.equal("not negative", x.degree(1), 0);
        Check.equal("10^9", x.degree(postGreat(x, "a", 0, BILLION)), BILLION);
        Check.equal("10^9 - 1", x.degree(postGreat(x, "a", 0, BILLION - 1)), BILLION - 1);
    }

    static void promise12CoefficientOfTheFirstAndTheLastConstraint() {
        PseudoBoolean x = sixty();
        Check.equal("of 0", x.coefficient(0, 2), 1);
        Check.equal("of 59", x.coefficient(59, 2), 1);
        Check.fails("of 60", Check.INDEX, () -> x.coefficient(60, 2));
        Check.fails("of -1", Check.INDEX, () -> x.coefficient(-1, 2));
    }

    static void promise12CoefficientOfTheFirstAndTheLastLiteral() {
        PseudoBoolean x = Check.with("3a + 5~l >= 1");
        Check.equal("of literal 0", x.coefficient(0, 0), 3);
        Check.equal("of literal 1", x.coefficient(0, 1), 0);
        Check.equal("of literal 22", x.coefficient(0, 22), 0);
        Check.equal("of literal 23", x.coefficient(0, 23), 5);
        Check.fails("of literal 24", Check.INDEX, () -> x.coefficient(0, 24));
        Check.fails("of literal -1", Check.INDEX, () -> x.coefficient(0, -1));
    }

    static void promise12CoefficientWithoutTerms() {
        PseudoBoolean x = Check.with("0a >= 1");
        for (int literal = 0; literal < 24; literal++) {
            Check.equal("of literal " + literal, x.coefficient(0, literal), 0);
        }
    }

    static void promise12CoefficientUpToABillion() {
        PseudoBoolean x = new PseudoBoolean();
        Check.equal("10^9", x.coefficient(postGreat(x, "~l", BILLION, 0), 23), BILLION);
    }

    // ---- slack

    static void promise13SlackWithoutTerms() {
        PseudoBoolean x = Check.with("0a >= 0", "0a >= 3");
        Check.equal("0 - 0", x.slack(0), 0);
        Check.equal("0 - 3", x.slack(1), -3);
    }

    static void promise13SlackOf0AndLess() {
        PseudoBoolean x = Check.with("a + b >= 2");
        Check.equal("0, as both are true", x.slack(0), 0);
        Check.equal("a", x.value(0), 1);
        Check.post(x, "a + b >= 3");
        Check.equal("-1", x.slack(1), -1);
        Check.equal("without values, 0", x.slack(0), 0);
    }

    static void promise13SlackOfFalseLiterals() {
        PseudoBoolean x = Check.with("5a + 3~l >= 0");
        Check.equal("both open", x.slack(0), 8);
        x.decide(22);
        Check.equal("~l is false", x.slack(0), 5);
        x.decide(0);
        Check.equal("a is true", x.slack(0), 5);
        x.undo();
        x.decide(1);
        Check.equal("both are false", x.slack(0), 0);
    }

    static void promise13SlackBeyondAnInt() {
        PseudoBoolean x = Check.with("1000a+1000b+1000c+1000d+1000e+1000f+1000g+1000h+1000i+1000j+1000k+1000l >= 0");
        x.multiple(0, 1000);
        x.multiple(1, 1000);
        Check.equal("12 * 10^9", x.slack(2), 12L * BILLION);
        x.decide(1);
        Check.equal("11 * 10^9", x.slack(2), 11L * BILLION);
    }

    static void promise13SlackOfTheLeast() {
        PseudoBoolean x = new PseudoBoolean();
        Check.equal("-10^9", x.slack(postGreat(x, "a", 0, BILLION)), -BILLION);
    }

    static void promise13SlackOfTheFirstAndTheLastConstraint() {
        PseudoBoolean x = sixty();
        Check.equal("of 0", x.slack(0), 1);
        Check.equal("of 59", x.slack(59), 1);
        Check.fails("of 60", Check.INDEX, () -> x.slack(60));
        Check.fails("of -1", Check.INDEX, () -> x.slack(-1));
    }

    // ---- cardinality

    private static void hasCardinality(String text, int due) {
        PseudoBoolean x = Check.with(text);
        Check.equal("cardinality of " + text, x.cardinality(0), due);
    }

    static void promise14CardinalityOfDegree0() {
        hasCardinality("5a + b >= 0", 0);
    }

    static void promise14CardinalityWithoutTerms() {
        hasCardinality("0a >= 0", 0);
        hasCardinality("0a >= 1", 1);
        hasCardinality("0a >= 999999", 1);
    }

    static void promise14CardinalityAtEachSum() {
        hasCardinality("5a + 3b + 3c + d >= 1", 1);
        hasCardinality("5a + 3b + 3c + d >= 5", 1);
        hasCardinality("5a + 3b + 3c + d >= 6", 2);
        hasCardinality("5a + 3b + 3c + d >= 8", 2);
        hasCardinality("5a + 3b + 3c + d >= 9", 3);
        hasCardinality("5a + 3b + 3c + d >= 11", 3);
        hasCardinality("5a + 3b + 3c + d >= 12", 4);
        hasCardinality("5a + 3b + 3c + d >= 13", 5);
    }

    static void promise14CardinalityTakesTheGreatestFirst() {
        hasCardinality("a + 3~k + 5l >= 5", 1);
        hasCardinality("a + 3~k + 5l >= 8", 2);
    }

    static void promise14CardinalityOfTwelveTerms() {
        hasCardinality(ALL + " >= 12", 12);
        hasCardinality(ALL + " >= 13", 13);
    }

    static void promise14CardinalityOfGreatNumbers() {
        PseudoBoolean x = new PseudoBoolean();
        int exact = postGreat(x, "a", BILLION, BILLION);
        Check.equal("10^9 of 10^9", x.cardinality(exact), 1);
        int less = postGreat(x, "a", BILLION - 1, BILLION);
        Check.equal("10^9 of 10^9 - 1", x.cardinality(less), 2);
    }

    static void promise14CardinalityOfTheFirstAndTheLastConstraint() {
        PseudoBoolean x = sixty();
        Check.equal("of 0", x.cardinality(0), 1);
        Check.equal("of 59", x.cardinality(59), 1);
        Check.fails("of 60", Check.INDEX, () -> x.cardinality(60));
        Check.fails("of -1", Check.INDEX, () -> x.cardinality(-1));
    }

    // ---- sum

    static void promise15SumOfNothing() {
        PseudoBoolean x = Check.with("0a >= 0", "0b >= 3");
        adds(x, "nothing and nothing", "0 >= 0", () -> x.sum(0, 0));
        adds(x, "degrees alone", "0 >= 6", () -> x.sum(1, 1));
    }

    static void promise15SumOfOneConstraintTwice() {
        PseudoBoolean x = Check.with("a + 2~b >= 2");
        adds(x, "twice", "2a + 4~b >= 4", () -> x.sum(0, 0));
    }

    static void promise15SumOfTheFirstAndTheLastConstraint() {
        PseudoBoolean x = Check.with("a + b >= 1", "l >= 0");
        adds(x, "0 and 1", "a + b + l >= 1", () -> x.sum(0, 1));
        adds(x, "2 and 0", "2a + 2b + l >= 2", () -> x.sum(2, 0));
        Check.fails("0 and 4", Check.INDEX, () -> x.sum(0, 4));
        Check.fails("4 and 0", Check.INDEX, () -> x.sum(4, 0));
    }

    static void promise15SumOfOppositeLiterals() {
        PseudoBoolean x = Check.with("3a + b >= 2", "3~a >= 2", "2~a >= 2", "4~a >= 2");
        adds(x, "as many", "b >= 1", () -> x.sum(0, 1));
        adds(x, "fewer", "a + b >= 2", () -> x.sum(0, 2));
        adds(x, "more", "~a + b >= 1", () -> x.sum(0, 3));
    }

    static void promise15SumWithADegreeAround0() {
        PseudoBoolean x = Check.with("3a >= 1", "3~a >= 2", "3~a >= 3", "3~a >= 1");
        adds(x, "3 - 3", "0 >= 0", () -> x.sum(0, 1));
        adds(x, "4 - 3", "0 >= 1", () -> x.sum(0, 2));
        adds(x, "2 - 3", "0 >= 0", () -> x.sum(0, 3));
    }

    static void promise15SumUpToABillionAsCoefficient() {
        PseudoBoolean x = Check.with("a >= 0", "~a >= 0");
        int less = postGreat(x, "a", BILLION - 1, 0);
        adds(x, "10^9", "1000000000a >= 0", () -> x.sum(less, 0));
        int most = x.constraintCount() - 1;
        tooGreat(x, "10^9 + 1", () -> x.sum(most, 0));
        tooGreat(x, "1 + 10^9", () -> x.sum(0, most));
        adds(x, "10^9 - 1", "999999999a >= 0", () -> x.sum(most, 1));
    }

    static void promise15SumUpToABillionAsDegree() {
        PseudoBoolean x = Check.with("0a >= 1");
        int less = postGreat(x, "a", 0, BILLION - 1);
        adds(x, "10^9", "0 >= 1000000000", () -> x.sum(less, 0));
        int most = x.constraintCount() - 1;
        tooGreat(x, "10^9 + 1", () -> x.sum(most, 0));
        tooGreat(x, "2 * 10^9", () -> x.sum(most, most));
    }

    /** The normal form counts, not the numbers before it. */
    static void promise15SumThatIsTooGreatOnTheWayOnly() {
        PseudoBoolean x = new PseudoBoolean();
        int yes = postGreat(x, "a", BILLION, BILLION);
        int no = postGreat(x, "~a", BILLION, BILLION);
        adds(x, "2 * 10^9 - 10^9", "0 >= 1000000000", () -> x.sum(yes, no));
        Check.post(x, "~a >= 1");
        int one = x.constraintCount() - 1;
        adds(x, "10^9 + 1 - 1", "999999999a >= 1000000000", () -> x.sum(yes, one));
        Check.post(x, "~a >= 2");
        tooGreat(x, "10^9 + 2 - 1", () -> x.sum(yes, one + 2));
    }

    // ---- multiple

    static void promise16MultipleBy1AndBy1000() {
        PseudoBoolean x = Check.with("2a + ~l >= 3");
        adds(x, "by 1", "2a + ~l >= 3", () -> x.multiple(0, 1));
        adds(x, "by 2", "4a + 2~l >= 6", () -> x.multiple(0, 2));
        adds(x, "by 999", "1998a + 999~l >= 2997", () -> x.multiple(0, 999));
        adds(x, "by 1000", "2000a + 1000~l >= 3000", () -> x.multiple(0, 1000));
    }

    static void promise16MultipleByOtherNumbers() {
        PseudoBoolean x = Check.with("a >= 1");
        Check.failsLeaving(x, "by 0", Check.ARGUMENT, () -> x.multiple(0, 0));
        Check.failsLeaving(x, "by -1", Check.ARGUMENT, () -> x.multiple(0, -1));
        Check.failsLeaving(x, "by 1001", Check.ARGUMENT, () -> x.multiple(0, 1001));
        Check.failsLeaving(x, "by the greatest", Check.ARGUMENT, () -> x.multiple(0, Integer.MAX_VALUE));
        Check.failsLeaving(x, "by the least", Check.ARGUMENT, () -> x.multiple(0, Integer.MIN_VALUE));
    }

    static void promise16MultipleOfNothing() {
        PseudoBoolean x = Check.with("0a >= 0", "0a >= 7");
        adds(x, "nothing", "0 >= 0", () -> x.multiple(0, 1000));
        adds(x, "a degree alone", "0 >= 7000", () -> x.multiple(1, 1000));
    }

    /** 10^9 is 1000 * 10^6, and 10^9 + 1 is 77 * 12987013. */
    static void promise16MultipleUpToABillionAsCoefficient() {
        PseudoBoolean x = new PseudoBoolean();
        int million = postGreat(x, "a", 1000000, 0);
        adds(x, "10^9", "1000000000a >= 0", () -> x.multiple(million, 1000));
        int beyond = postGreat(x, "a", 12987013, 0);
        tooGreat(x, "10^9 + 1", () -> x.multiple(beyond, 77));
        adds(x, "76 times", "987012988a >= 0", () -> x.multiple(beyond, 76));
        int most = postGreat(x, "a", BILLION, 0);
        adds(x, "10^9 by 1", "1000000000a >= 0", () -> x.multiple(most, 1));
        tooGreat(x, "10^9 by 2", () -> x.multiple(most, 2));
        tooGreat(x, "10^9 by 1000", () -> x.multiple(most, 1000));
    }

    static void promise16MultipleUpToABillionAsDegree() {
        PseudoBoolean x = new PseudoBoolean();
        int million = postGreat(x, "a", 0, 1000000);
        adds(x, "10^9", "0 >= 1000000000", () -> x.multiple(million, 1000));
        int beyond = postGreat(x, "a", 0, 12987013);
        tooGreat(x, "10^9 + 1", () -> x.multiple(beyond, 77));
        int most = postGreat(x, "a", 0, BILLION);
        tooGreat(x, "10^9 by 1000", () -> x.multiple(most, 1000));
    }

    // ---- quotient

    static void promise17QuotientBy1() {
        PseudoBoolean x = Check.with("2a + 3~l >= 4");
        adds(x, "by 1", "2a + 3~l >= 4", () -> x.quotient(0, 1));
    }

    static void promise17QuotientByOtherNumbers() {
        PseudoBoolean x = Check.with("a >= 1");
        Check.failsLeaving(x, "by 0", Check.ARGUMENT, () -> x.quotient(0, 0));
        Check.failsLeaving(x, "by -1", Check.ARGUMENT, () -> x.quotient(0, -1));
        Check.failsLeaving(x, "by the least", Check.ARGUMENT, () -> x.quotient(0, Integer.MIN_VALUE));
    }

    static void promise17QuotientRoundsUp() {
        PseudoBoolean x = Check.with("a + 2b + 3c + 4d + 5e + 6f + 7g >= 6");
        adds(x, "by 3", "a + b + c + 2d + 2e + 2f + 3g >= 2", () -> x.quotient(0, 3));
        adds(x, "by 2", "a + b + 2c + 2d + 3e + 3f + 4g >= 3", () -> x.quotient(0, 2));
        adds(x, "by 5", "a + b + c + d + e + 2f + 2g >= 2", () -> x.quotient(0, 5));
        adds(x, "by 6", "a + b + c + d + e + f + 2g >= 1", () -> x.quotient(0, 6));
    }

    static void promise17QuotientOfNothing() {
        PseudoBoolean x = Check.with("0a >= 0", "0a >= 1", "a + b >= 0");
        adds(x, "nothing", "0 >= 0", () -> x.quotient(0, 2));
        adds(x, "a degree alone", "0 >= 1", () -> x.quotient(1, 2));
        adds(x, "degree 0", "a + b >= 0", () -> x.quotient(2, 2));
    }

    static void promise17QuotientOfABillion() {
        PseudoBoolean x = new PseudoBoolean();
        int most = postGreat(x, "a", BILLION, BILLION);
        adds(x, "by 10^9 + 1", "a >= 1", () -> x.quotient(most, BILLION + 1));
        adds(x, "by 10^9", "a >= 1", () -> x.quotient(most, BILLION));
        adds(x, "by 10^9 - 1", "2a >= 2", () -> x.quotient(most, BILLION - 1));
        adds(x, "by 1", "1000000000a >= 1000000000", () -> x.quotient(most, 1));
        adds(x, "by the greatest", "a >= 1", () -> x.quotient(most, Integer.MAX_VALUE));
    }

    // ---- saturation

    static void promise18SaturationAroundTheDegree() {
        PseudoBoolean x = Check.with("2a + 3b + 4c >= 3");
        adds(x, "2, 3 and 4", "2a + 3b + 3c >= 3", () -> x.saturation(0));
    }

    static void promise18SaturationWithDegree0() {
        PseudoBoolean x = Check.with("a + 5~l >= 0", "0a >= 0");
        adds(x, "all terms vanish", "0 >= 0", () -> x.saturation(0));
        adds(x, "no terms", "0 >= 0", () -> x.saturation(1));
    }

    static void promise18SaturationWithDegree1() {
        PseudoBoolean x = Check.with("a + 5~l >= 1");
        adds(x, "all become 1", "a + ~l >= 1", () -> x.saturation(0));
    }

    static void promise18SaturationWithoutTerms() {
        PseudoBoolean x = Check.with("0a >= 4");
        adds(x, "the degree stays", "0 >= 4", () -> x.saturation(0));
    }

    static void promise18SaturationOfGreatNumbers() {
        PseudoBoolean x = new PseudoBoolean();
        int most = postGreat(x, "a", BILLION, BILLION - 1);
        adds(x, "10^9 to 10^9 - 1", "999999999a >= 999999999", () -> x.saturation(most));
    }

    // ---- weakening

    static void promise19WeakeningWithADegreeAround0() {
        PseudoBoolean x = Check.with("4a + b >= 3", "3a + b >= 3", "2a + b >= 3");
        adds(x, "3 - 4", "b >= 0", () -> x.weakening(0, 0));
        adds(x, "3 - 3", "b >= 0", () -> x.weakening(1, 0));
        adds(x, "3 - 2", "b >= 1", () -> x.weakening(2, 0));
    }

    static void promise19WeakeningOfTheFirstAndTheLastVariable() {
        PseudoBoolean x = Check.with("a + b + l >= 2");
        adds(x, "a", "b + l >= 1", () -> x.weakening(0, 0));
        adds(x, "l", "a + b >= 1", () -> x.weakening(0, 11));
        Check.fails("12", Check.INDEX, () -> x.weakening(0, 12));
        Check.fails("-1", Check.INDEX, () -> x.weakening(0, -1));
    }

    static void promise19WeakeningOfTheOnlyTerm() {
        PseudoBoolean x = Check.with("2~c >= 5");
        adds(x, "no terms are left", "0 >= 3", () -> x.weakening(0, 2));
        Check.failsLeaving(x, "no term is there", Check.ARGUMENT, () -> x.weakening(1, 2));
    }

    static void promise19WeakeningWithoutALiteralOfTheVariable() {
        PseudoBoolean x = Check.with("b + c + k >= 1", "a - a + b >= 1");
        for (int variable : new int[] {0, 3, 9, 11}) {
            Check.failsLeaving(x, "variable " + variable, Check.ARGUMENT, () -> x.weakening(0, variable));
        }
        Check.failsLeaving(x, "a term that vanished", Check.ARGUMENT, () -> x.weakening(1, 0));
    }

    static void promise19WeakeningOfGreatNumbers() {
        PseudoBoolean x = new PseudoBoolean();
        int most = postGreat(x, "a", BILLION, BILLION);
        adds(x, "10^9 - 10^9", "0 >= 0", () -> x.weakening(most, 0));
        int less = postGreat(x, "a", 1, BILLION);
        adds(x, "10^9 - 1", "0 >= 999999999", () -> x.weakening(less, 0));
    }

    // ---- resolvent

    static void promise20ResolventOfTheFirstAndTheLastVariable() {
        PseudoBoolean x = Check.with("a + b >= 1", "~a + c >= 1", "l + b >= 1", "~l + c >= 1");
        adds(x, "a", "b + c >= 1", () -> x.resolvent(0, 1, 0));
        adds(x, "l", "b + c >= 1", () -> x.resolvent(2, 3, 11));
        Check.fails("12", Check.INDEX, () -> x.resolvent(2, 3, 12));
        Check.fails("-1", Check.INDEX, () -> x.resolvent(0, 1, -1));
    }

    static void promise20ResolventByTheDivisor() {
        PseudoBoolean x = Check.with("6a + b >= 6", "4~a + c >= 4", "5~a + d >= 5", "6~a + e >= 6");
        adds(x, "g = 2", "2b + 3c >= 12", () -> x.resolvent(0, 1, 0));
        adds(x, "g = 1", "5b + 6d >= 30", () -> x.resolvent(0, 2, 0));
        adds(x, "p = q", "b + e >= 6", () -> x.resolvent(0, 3, 0));
        adds(x, "the other order", "2b + 3c >= 12", () -> x.resolvent(1, 0, 0));
    }

    static void promise20ResolventOfCoefficient1() {
        PseudoBoolean x = Check.with("a + b >= 1", "7~a + c >= 7");
        adds(x, "1 and 7", "7b + c >= 7", () -> x.resolvent(0, 1, 0));
    }

    static void promise20ResolventThatIsEmpty() {
        PseudoBoolean x = Check.with("2a >= 1", "3~a >= 1", "2a >= 2", "3~a >= 3");
        adds(x, "a negative degree", "0 >= 0", () -> x.resolvent(0, 1, 0));
        adds(x, "a positive degree", "0 >= 6", () -> x.resolvent(2, 3, 0));
    }

    static void promise20ResolventWithoutOppositeLiterals() {
        PseudoBoolean x = Check.with("a + b >= 1", "a + ~b >= 1", "c >= 1", "0a >= 0");
        Check.failsLeaving(x, "the same literal", Check.ARGUMENT, () -> x.resolvent(0, 1, 0));
        Check.failsLeaving(x, "one constraint", Check.ARGUMENT, () -> x.resolvent(1, 1, 1));
        Check.failsLeaving(x, "only the first", Check.ARGUMENT, () -> x.resolvent(0, 2, 0));
        Check.failsLeaving(x, "only the second", Check.ARGUMENT, () -> x.resolvent(2, 0, 0));
        Check.failsLeaving(x, "neither", Check.ARGUMENT, () -> x.resolvent(0, 1, 5));
        Check.failsLeaving(x, "no terms", Check.ARGUMENT, () -> x.resolvent(3, 3, 0));
        adds(x, "another variable", "2a >= 1", () -> x.resolvent(0, 1, 1));
    }

    static void promise20ResolventUpToABillionAsCoefficient() {
        PseudoBoolean x = Check.with("1000a + b >= 0", "~a + c >= 0");
        int million = postGreat(x, "~a", 1000000, 0);
        Check.post(x, "d >= 0");
        int billion = postGreat(x, "d", 1000000, 0);
        // The first one times 1000, the second one times 1.
        int both = x.sum(million, billion);
        adds(x, "10^6", "1000b + 1000000d >= 0", () -> x.resolvent(0, both, 0));
        // The second one times 10^9: its coefficient 1 is still in the bounds, a 2 is not.
        int most = postGreat(x, "a", BILLION, 0);
        adds(x, "10^9", "1000000000c >= 0", () -> x.resolvent(most, 1, 0));
        Check.post(x, "~a + 2c >= 0");
        int twice = x.constraintCount() - 1;
        tooGreat(x, "2 * 10^9", () -> x.resolvent(most, twice, 0));
        tooGreat(x, "2 * 10^9 in the other order", () -> x.resolvent(twice, most, 0));
        // Both have the coefficient 1 for c, and the second one is taken 10^9 times.
        Check.post(x, "c >= 0");
        int withC = x.sum(most, x.constraintCount() - 1);
        tooGreat(x, "10^9 + 1", () -> x.resolvent(withC, 1, 0));
    }

    static void promise20ResolventUpToABillionAsDegree() {
        PseudoBoolean x = Check.with("~a >= 1", "~a >= 2", "~a >= 3");
        int most = postGreat(x, "a", BILLION, 0);
        adds(x, "10^9 - 10^9", "0 >= 0", () -> x.resolvent(most, 0, 0));
        adds(x, "2 * 10^9 - 10^9", "0 >= 1000000000", () -> x.resolvent(1, most, 0));
        tooGreat(x, "3 * 10^9 - 10^9", () -> x.resolvent(most, 2, 0));
        int one = postGreat(x, "a", BILLION, 1);
        tooGreat(x, "2 * 10^9 + 1 - 10^9", () -> x.resolvent(one, 1, 0));
    }

    // ---- cardinalityConstraint

    static void promise21CardinalityConstraintOfDegree0() {
        PseudoBoolean x = Check.with("5a + 2~l >= 0");
        adds(x, "none", "a + ~l >= 0", () -> x.cardinalityConstraint(0));
    }

    static void promise21CardinalityConstraintWithoutTerms() {
        PseudoBoolean x = Check.with("0a >= 0", "0a >= 9");
        adds(x, "degree 0", "0 >= 0", () -> x.cardinalityConstraint(0));
        adds(x, "degree 9", "0 >= 1", () -> x.cardinalityConstraint(1));
    }

    static void promise21CardinalityConstraintOfAllAndOfMore() {
        PseudoBoolean x = Check.with("5a + 2~l >= 7", "5a + 2~l >= 8");
        adds(x, "both", "a + ~l >= 2", () -> x.cardinalityConstraint(0));
        adds(x, "more than both", "a + ~l >= 3", () -> x.cardinalityConstraint(1));
    }

    static void promise21CardinalityConstraintOfTwelveTerms() {
        PseudoBoolean x = Check.with(ALL + " >= 13");
        String due = "a + b + c + d + e + f + g + h + i + j + k + l >= 13";
        adds(x, "thirteen of twelve", due, () -> x.cardinalityConstraint(0));
    }

    // ---- the limit of 60, for each step

    private interface StepOn {
        int add(PseudoBoolean x);
    }

    private static void fillsTheSixtieth(String what, StepOn step) {
        PseudoBoolean x = Check.with("2a + b >= 1", "~a + c >= 1");
        while (x.constraintCount() < 59) {
            x.multiple(0, 1);
        }
        Check.equal(what + " at 59", step.add(x), 59);
        Check.equal("60 behind " + what, x.constraintCount(), 60);
        Check.failsLeaving(x, what + " at 60", Check.STATE, () -> step.add(x));
        Check.equal("60 still", x.constraintCount(), 60);
    }

    static void promise15SumIsTheSixtieth() {
        fillsTheSixtieth("sum", x -> x.sum(0, 1));
    }

    static void promise16MultipleIsTheSixtieth() {
        fillsTheSixtieth("multiple", x -> x.multiple(0, 2));
    }

    static void promise17QuotientIsTheSixtieth() {
        fillsTheSixtieth("quotient", x -> x.quotient(0, 2));
    }

    static void promise18SaturationIsTheSixtieth() {
        fillsTheSixtieth("saturation", x -> x.saturation(0));
    }

    static void promise19WeakeningIsTheSixtieth() {
        fillsTheSixtieth("weakening", x -> x.weakening(0, 0));
    }

    static void promise20ResolventIsTheSixtieth() {
        fillsTheSixtieth("resolvent", x -> x.resolvent(0, 1, 0));
    }

    static void promise21CardinalityConstraintIsTheSixtieth() {
        fillsTheSixtieth("cardinalityConstraint", x -> x.cardinalityConstraint(0));
    }

    static void promise25AddGroupIsTheSixtieth() {
        fillsTheSixtieth("addGroup", x -> {
            x.group(0);
            return x.addGroup();
        });
    }
}
