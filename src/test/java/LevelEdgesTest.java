import java.math.BigInteger;

/** The edges of promises 1 and 40 to 42: a new object, levels and the checksum. */
final class LevelEdgesTest {
    private static final BigInteger THIRTY_ONE = BigInteger.valueOf(31);
    private static final long NEW_OBJECT = 5944220745629299779L;

    public static void main(String[] args) {
        Check.runPromises(LevelEdgesTest.class);
    }

    // ---- a new object

    static void promise01NewObjectHasAnEmptyBuffer() {
        PseudoBoolean x = new PseudoBoolean();
        Check.hasEmptyBuffer("the constructor", x);
        Check.fails("post", Check.ARGUMENT, x::post);
        Check.equal("error", x.errorPosition(), 0);
    }

    static void promise01NewObjectHasAnEmptyOutput() {
        PseudoBoolean x = new PseudoBoolean();
        Check.fails("outputByte(0)", Check.INDEX, () -> x.outputByte(0));
    }

    static void promise01NewObjectHasNoConstraints() {
        PseudoBoolean x = new PseudoBoolean();
        Check.equal("constraintCount", x.constraintCount(), 0);
        Check.fails("degree(0)", Check.INDEX, () -> x.degree(0));
        Check.equal("modelCount", x.modelCount(), 4096);
    }

    static void promise01NewObjectHasNoDecisionsAndNoLevels() {
        PseudoBoolean x = new PseudoBoolean();
        Check.equal("decisionCount", x.decisionCount(), 0);
        Check.fails("undo", Check.STATE, x::undo);
        Check.fails("pop", Check.STATE, x::pop);
    }

    static void promise01NewObjectHasNoCosts() {
        PseudoBoolean x = new PseudoBoolean();
        for (int variable = 0; variable < 12; variable++) {
            Check.equal("the cost of " + variable, x.setCost(variable, 1), 0);
        }
    }

    static void promise01NewObjectKeepsNoGroupAndNoReason() {
        PseudoBoolean x = new PseudoBoolean();
        Check.fails("groupLiteral(0)", Check.INDEX, () -> x.groupLiteral(0));
        Check.fails("addGroup", Check.ELEMENT, x::addGroup);
        Check.fails("reasonLiteral(0)", Check.INDEX, () -> x.reasonLiteral(0));
    }

    // ---- push and pop

    static void promise40PushOfTheFirstAndTheEighthLevel() {
        PseudoBoolean x = new PseudoBoolean();
        for (int level = 1; level <= 8; level++) {
            Check.equal("push", x.push(), level);
        }
    }

    static void promise40PushRefusesTheNinthLevel() {
        PseudoBoolean x = new PseudoBoolean();
        while (x.push() < 8) {
            Check.post(x, "a >= 1");
        }
        Check.failsLeaving(x, "push", Check.STATE, x::push);
        Check.failsLeaving(x, "push again", Check.STATE, x::push);
        // The refused ones left the stored numbers alone.
        Check.post(x, "b >= 1");
        Check.equal("pop", x.pop(), 7);
        Check.equal("seven are left", x.constraintCount(), 7);
        Check.equal("pop", x.pop(), 6);
        Check.equal("six are left", x.constraintCount(), 6);
    }

    static void promise40PushBehindAPopFromTheEighth() {
        PseudoBoolean x = new PseudoBoolean();
        while (x.push() < 8) {
            x.decide(2 * x.decisionCount());
        }
        Check.equal("pop", x.pop(), 7);
        Check.equal("push", x.push(), 8);
        Check.failsLeaving(x, "push", Check.STATE, x::push);
    }

    static void promise40PushInAConflict() {
        PseudoBoolean x = Check.with("0a >= 1");
        Check.equal("push", x.push(), 1);
        Check.equal("pop", x.pop(), 0);
        Check.yes("the conflict is still there", x.isConflicting());
    }

    static void promise41PopOfNoLevel() {
        PseudoBoolean x = Check.with("a >= 1");
        x.decide(2);
        Check.failsLeaving(x, "pop", Check.STATE, x::pop);
        x.push();
        Check.equal("pop", x.pop(), 0);
        Check.failsLeaving(x, "pop again", Check.STATE, x::pop);
        Check.equal("the constraint is kept", x.constraintCount(), 1);
        Check.equal("the decision is kept", x.decisionCount(), 1);
    }

    static void promise41PopOfAnEmptyLevel() {
        PseudoBoolean x = Check.with("a >= 1");
        x.decide(2);
        long before = x.digest();
        x.push();
        x.pop();
        Check.equal("digest", x.digest(), before);
    }

    static void promise41PopOfALevelInALevelWithoutConstraints() {
        PseudoBoolean x = Check.with("a + b >= 1");
        x.push();
        x.push();
        Check.post(x, "c >= 1");
        Check.equal("pop", x.pop(), 1);
        Check.equal("the outer level's", x.constraintCount(), 1);
        Check.post(x, "d >= 1");
        Check.equal("pop", x.pop(), 0);
        Check.equal("the first", x.constraintCount(), 1);
        Check.equal("d is open", x.value(3), -1);
        Check.equal("models", x.modelCount(), 3072);
    }

    static void promise41PopOfSixtyConstraints() {
        PseudoBoolean x = new PseudoBoolean();
        x.push();
        Check.post(x, "a >= 1");
        while (x.constraintCount() < 60) {
            x.multiple(0, 1);
        }
        x.pop();
        Check.equal("none are left", x.constraintCount(), 0);
        Check.fails("degree(0)", Check.INDEX, () -> x.degree(0));
        Check.equal("models", x.modelCount(), 4096);
        Check.equal("the next number", Check.post(x, "b >= 1"), 0);
        Check.equal("its text", Check.written(x, 0), "b >= 1");
    }

    static void promise41PopLeavesNothingForTheNextConstraintWithThatNumber() {
        PseudoBoolean x = new PseudoBoolean();
        x.push();
        Check.post(x, "9a + 9~l >= 12");
        x.pop();
        Check.equal("the next number", Check.post(x, "b + c >= 1"), 0);
        Check.equal("its text", Check.written(x, 0), "b + c >= 1");
        Check.equal("its slack", x.slack(0), 1);
        Check.equal("its terms", x.termCount(0), 2);
        Check.equal("the coefficient of a", x.coefficient(0, 0), 0);
        Check.equal("a", x.value(0), -1);
        Check.no("a and b", x.exclude(0, 2));
        Check.equal("models", x.modelCount(), 3072);
    }

    static void promise41PopRestoresTwelveDecisions() {
        PseudoBoolean x = new PseudoBoolean();
        for (int variable = 0; variable < 12; variable++) {
            x.decide(2 * variable + variable % 2);
        }
        long before = x.digest();
        x.push();
        for (int variable = 0; variable < 12; variable++) {
            x.undo();
        }
        for (int variable = 0; variable < 12; variable++) {
            x.decide(23 - 2 * variable);
        }
        x.pop();
        // The levels are as before too, so the digest must be.
        Check.equal("digest", x.digest(), before);
        Check.equal("undo takes the last one back", x.undo(), 11);
        Check.equal("l", x.value(11), -1);
        Check.equal("k", x.value(10), 1);
    }

    static void promise41PopRestoresNoDecisions() {
        PseudoBoolean x = new PseudoBoolean();
        x.push();
        x.decide(0);
        x.decide(3);
        x.pop();
        Check.equal("decisions", x.decisionCount(), 0);
        Check.equal("a", x.value(0), -1);
        Check.failsLeaving(x, "undo", Check.STATE, x::undo);
    }

    static void promise41PopIntoAndOutOfAConflict() {
        PseudoBoolean x = Check.with("a + b >= 1");
        x.decide(0);
        x.push();
        Check.post(x, "a <= 0");
        Check.yes("a conflict", x.isConflicting());
        x.push();
        x.undo();
        Check.no("none without the decision", x.isConflicting());
        x.pop();
        Check.yes("a conflict again", x.isConflicting());
        Check.equal("a has no value", x.value(0), -1);
        x.pop();
        Check.no("none below", x.isConflicting());
        Check.equal("a is decided", x.value(0), 1);
    }

    static void promise41PopKeepsCosts() {
        PseudoBoolean x = new PseudoBoolean();
        x.push();
        x.setCost(0, -1000);
        x.pop();
        Check.equal("the cost", x.setCost(0, 0), -1000);
    }

    // ---- digest

    /** The checksum of the numbers, counted without a limit and cut to 64 bits at the end. */
    private static long checksum(long... numbers) {
        BigInteger d = BigInteger.valueOf(41);
        for (long number : numbers) {
            d = d.multiply(THIRTY_ONE).add(BigInteger.valueOf(number));
        }
        return d.longValue();
    }

    static void promise42DigestOfANewObject() {
        long due = checksum(0, 0, 0,
                -1, 0, -1, 0, -1, 0, -1, 0, -1, 0, -1, 0, -1, 0, -1, 0, -1, 0, -1, 0, -1, 0, -1, 0);
        Check.equal("digest", new PseudoBoolean().digest(), due);
        Check.equal("as a number", due, NEW_OBJECT);
    }

    static void promise42DigestWrapsAroundMoreOftenWithMoreNumbers() {
        // 60 constraints of 12 terms: 3 + 60 * 25 + 24 numbers, each of which multiplies by 31.
        PseudoBoolean x = Check.with("a+2b+3c+4d+5e+6f+7g+8h+9i+10j+11k+12l >= 0");
        while (x.constraintCount() < 60) {
            x.multiple(0, 1);
        }
        long[] numbers = new long[3 + 60 * 25 + 24];
        numbers[0] = 60;
        for (int i = 0; i < 60 * 25; i++) {
            int term = i % 25;
            numbers[3 + i] = term == 0 ? 0 : term % 2 == 1 ? term - 1 : term / 2;
        }
        for (int variable = 0; variable < 12; variable++) {
            numbers[numbers.length - 24 + 2 * variable] = -1;
        }
        Check.equal("digest", x.digest(), checksum(numbers));
    }

    static void promise42DigestOfTheGreatestNumbers() {
        PseudoBoolean x = Check.with("1000a + 1000~l >= 1000");
        x.multiple(0, 1000);
        x.multiple(1, 1000);
        x.setCost(0, -1000);
        x.setCost(11, 1000);
        int billion = 1000000000;
        long due = checksum(3, 0, 0,
                1000, 0, 1000, 23, 1000,
                1000000, 0, 1000000, 23, 1000000,
                billion, 0, billion, 23, billion,
                -1, -1000, -1, 0, -1, 0, -1, 0, -1, 0, -1, 0, -1, 0, -1, 0, -1, 0, -1, 0, -1, 0, -1, 1000);
        Check.equal("digest", x.digest(), due);
    }

    static void promise42DigestOfConstraintsWithoutTerms() {
        PseudoBoolean x = Check.with("0a >= 0", "0a >= 5");
        long due = checksum(2, 0, 0, 0, 5,
                -1, 0, -1, 0, -1, 0, -1, 0, -1, 0, -1, 0, -1, 0, -1, 0, -1, 0, -1, 0, -1, 0, -1, 0);
        Check.equal("digest", x.digest(), due);
    }

    static void promise42DigestOfAllDecisionsAndLevels() {
        PseudoBoolean x = new PseudoBoolean();
        while (x.push() < 8) {
            x.decide(2 * x.decisionCount());
        }
        for (int variable = 7; variable < 12; variable++) {
            x.decide(2 * variable + 1);
        }
        long due = checksum(0, 12, 8,
                1, 0, 1, 0, 1, 0, 1, 0, 1, 0, 1, 0, 1, 0, 0, 0, 0, 0, 0, 0, 0, 0, 0, 0);
        Check.equal("digest", x.digest(), due);
    }

    /** The 512th call is still promised. */
    static void promise42DigestAsTheLastCallOfAnObject() {
        PseudoBoolean x = new PseudoBoolean();
        for (int call = 1; call < 512; call += 7) {
            x.push();
            x.setCost(call % 12, call);
            x.group(call % 24);
            x.addGroup();
            x.decide(call % 24);
            x.pop();
            x.digest();
        }
        long[] numbers = new long[27];
        for (int variable = 0; variable < 12; variable++) {
            numbers[3 + 2 * variable] = -1;
        }
        for (int call = 1; call < 512; call += 7) {
            numbers[4 + 2 * (call % 12)] = call;
        }
        Check.equal("digest", x.digest(), checksum(numbers));
    }

    static void promise42DigestInAConflict() {
        PseudoBoolean x = new PseudoBoolean();
        x.decide(0);
        Check.post(x, "0a >= 1");
        long due = checksum(1, 1, 0, 1,
                -1, 0, -1, 0, -1, 0, -1, 0, -1, 0, -1, 0, -1, 0, -1, 0, -1, 0, -1, 0, -1, 0, -1, 0);
        Check.equal("digest", x.digest(), due);
    }
}
