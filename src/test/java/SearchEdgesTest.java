/** The edges of promises 22 to 39: exclusions, decisions, models, costs and reasons. */
final class SearchEdgesTest {
    private static final String ALL = "a+b+c+d+e+f+g+h+i+j+k+l";
    private static final int GREATEST = Integer.MAX_VALUE;
    private static final int LEAST = Integer.MIN_VALUE;

    public static void main(String[] args) {
        Check.runPromises(SearchEdgesTest.class);
    }

    private static PseudoBoolean withoutModels() {
        return Check.with("0a >= 1");
    }

    // ---- exclude

    static void promise22ExcludeOfALiteralAndItself() {
        PseudoBoolean x = withoutModels();
        for (int literal = 0; literal < 24; literal++) {
            Check.no("literal " + literal, x.exclude(literal, literal));
        }
    }

    static void promise22ExcludeOfTheLiteralsOfOneVariable() {
        PseudoBoolean x = new PseudoBoolean();
        for (int literal = 0; literal < 24; literal++) {
            Check.yes("literal " + literal, x.exclude(literal, literal ^ 1));
        }
    }

    static void promise22ExcludeWithoutConstraints() {
        PseudoBoolean x = new PseudoBoolean();
        Check.no("0 and 2", x.exclude(0, 2));
        Check.no("23 and 21", x.exclude(23, 21));
    }

    static void promise22ExcludeOfTheFirstAndTheLastLiteral() {
        PseudoBoolean x = Check.with("~a + l >= 1");
        Check.yes("0 and 23", x.exclude(0, 23));
        Check.yes("23 and 0", x.exclude(23, 0));
        Check.no("1 and 22", x.exclude(1, 22));
        Check.fails("24 and 0", Check.INDEX, () -> x.exclude(24, 0) ? 1 : 0);
        Check.fails("0 and 24", Check.INDEX, () -> x.exclude(0, 24) ? 1 : 0);
        Check.fails("-1 and 23", Check.INDEX, () -> x.exclude(-1, 23) ? 1 : 0);
        Check.fails("23 and -1", Check.INDEX, () -> x.exclude(23, -1) ? 1 : 0);
        Check.fails("24 and 24", Check.INDEX, () -> x.exclude(24, 24) ? 1 : 0);
    }

    /** The slack when both are true: 0 excludes nothing, -1 does. */
    static void promise22ExcludeAroundASlackOf0() {
        Check.no("slack 0", Check.with("2a + 2b + 2c >= 2").exclude(1, 3));
        Check.yes("slack -1", Check.with("2a + 2b + 2c >= 3").exclude(1, 3));
        Check.yes("slack -2", Check.with("2a + 2b + 2c >= 4").exclude(1, 3));
    }

    static void promise22ExcludeByOneLiteralAlone() {
        Check.no("slack 0", Check.with("a + b >= 1").exclude(1, 22));
        Check.yes("slack -1", Check.with("a + b >= 2").exclude(1, 22));
        Check.yes("slack -1 by the second", Check.with("a + b >= 2").exclude(22, 1));
    }

    static void promise22ExcludeByAConstraintWithoutTerms() {
        Check.no("degree 0", Check.with("0a >= 0").exclude(2, 23));
        Check.yes("degree 1", Check.with("0a >= 1").exclude(2, 23));
    }

    static void promise22ExcludeByTheLastConstraint() {
        PseudoBoolean x = new PseudoBoolean();
        while (x.constraintCount() < 59) {
            Check.post(x, "a >= 0");
        }
        Check.no("before it", x.exclude(20, 22));
        Check.post(x, "k + l <= 1");
        Check.yes("behind it", x.exclude(20, 22));
    }

    static void promise22ExcludeByGreatNumbers() {
        PseudoBoolean x = Check.with("999999a + 999999b + 999999c >= 999999");
        x.multiple(0, 1000);
        // The coefficients add up to 2999997000, more than an int holds.
        Check.no("slack 0", x.exclude(1, 3));
        Check.post(x, "~c >= 1");
        Check.no("slack 0 still", x.exclude(1, 3));
        Check.equal("1 less for c", Check.written(x, x.sum(1, 2)),
                "999999000a + 999999000b + 999998999c >= 999999000");
        Check.yes("slack -1", x.exclude(1, 3));
    }

    // ---- group, groupLiteral, addGroup

    static void promise23GroupOfTheFirstAndTheLastLiteral() {
        PseudoBoolean x = new PseudoBoolean();
        Check.equal("group(0)", x.group(0), 2);
        Check.equal("its first", x.groupLiteral(0), 0);
        Check.equal("its last", x.groupLiteral(1), 1);
        Check.equal("group(23)", x.group(23), 2);
        Check.equal("its first", x.groupLiteral(0), 22);
        Check.equal("its last", x.groupLiteral(1), 23);
        Check.fails("group(24)", Check.INDEX, () -> x.group(24));
        Check.fails("group(-1)", Check.INDEX, () -> x.group(-1));
    }

    static void promise23GroupOfAllLiterals() {
        PseudoBoolean x = withoutModels();
        for (int literal = 0; literal < 24; literal++) {
            Check.equal("group(" + literal + ")", x.group(literal), 24);
        }
        Check.equal("the first", x.groupLiteral(0), 0);
        Check.equal("the last", x.groupLiteral(23), 23);
        Check.fails("behind it", Check.INDEX, () -> x.groupLiteral(24));
    }

    static void promise23GroupOfALiteralAlone() {
        // Every literal has its opposite in its group, unless a lower literal is there before it.
        PseudoBoolean x = Check.with("a + b <= 1");
        Check.equal("group(2)", x.group(2), 2);
        Check.equal("a", x.groupLiteral(0), 0);
        Check.equal("b, and not ~b", x.groupLiteral(1), 2);
    }

    static void promise23GroupOfAllVariables() {
        PseudoBoolean x = Check.with(ALL + " <= 1");
        Check.equal("group(0)", x.group(0), 2);
        Check.equal("a and ~a, as ~a is looked at before b", x.groupLiteral(1), 1);
        Check.equal("group(2)", x.group(2), 12);
        Check.equal("the last", x.groupLiteral(11), 22);
    }

    static void promise23GroupKeptUntilTheNextSuccessfulCall() {
        PseudoBoolean x = Check.with("a + b <= 1");
        x.group(2);
        Check.fails("group(24)", Check.INDEX, () -> x.group(24));
        Check.equal("kept", x.groupLiteral(1), 2);
        Check.post(x, "c + d <= 1");
        x.decide(0);
        x.exclude(4, 6);
        Check.equal("kept by other calls", x.groupLiteral(1), 2);
        x.group(9);
        Check.equal("replaced", x.groupLiteral(0), 8);
    }

    static void promise24GroupLiteralWithoutAGroup() {
        PseudoBoolean x = new PseudoBoolean();
        Check.fails("groupLiteral(0)", Check.INDEX, () -> x.groupLiteral(0));
        Check.fails("group(-1)", Check.INDEX, () -> x.group(-1));
        Check.fails("groupLiteral(0) behind a refused group", Check.INDEX, () -> x.groupLiteral(0));
    }

    static void promise24GroupLiteralOfTheFirstAndTheLast() {
        PseudoBoolean x = Check.with("a + ~c + l <= 1");
        Check.equal("three", x.group(22), 3);
        Check.equal("0", x.groupLiteral(0), 0);
        Check.equal("1", x.groupLiteral(1), 5);
        Check.equal("2", x.groupLiteral(2), 22);
        Check.fails("3", Check.INDEX, () -> x.groupLiteral(3));
        Check.fails("-1", Check.INDEX, () -> x.groupLiteral(-1));
        Check.fails("the greatest", Check.INDEX, () -> x.groupLiteral(GREATEST));
        Check.fails("the least", Check.INDEX, () -> x.groupLiteral(LEAST));
    }

    static void promise24GroupLiteralBehindASmallerGroup() {
        PseudoBoolean x = Check.with("a + ~c + l <= 1");
        x.group(22);
        x.group(2);
        Check.fails("2", Check.INDEX, () -> x.groupLiteral(2));
    }

    static void promise25AddGroupWithoutAGroup() {
        PseudoBoolean x = Check.with("a + b <= 1");
        Check.failsLeaving(x, "none", Check.ELEMENT, x::addGroup);
        Check.fails("group(24)", Check.INDEX, () -> x.group(24));
        Check.failsLeaving(x, "behind a refused group", Check.ELEMENT, x::addGroup);
    }

    static void promise25AddGroupOfTheSmallestGroup() {
        PseudoBoolean x = new PseudoBoolean();
        x.group(0);
        // ~a + a >= 1 in normal form.
        Check.equal("addGroup", x.addGroup(), 0);
        Check.equal("nothing is left", Check.written(x, 0), "0 >= 0");
    }

    static void promise25AddGroupOfTheGreatestGroup() {
        PseudoBoolean x = withoutModels();
        x.group(0);
        Check.equal("addGroup", x.addGroup(), 1);
        // 24 literals and a degree of 23, from which 1 is subtracted for each variable.
        Check.equal("no terms, and 23 - 12", Check.written(x, 1), "0 >= 11");
    }

    static void promise25AddGroupOfTwelveVariables() {
        PseudoBoolean x = Check.with(ALL + " <= 1");
        x.group(2);
        x.addGroup();
        Check.equal("eleven are false", x.degree(1), 11);
        Check.equal("of twelve", x.termCount(1), 12);
        Check.equal("~a", x.coefficient(1, 1), 1);
        Check.equal("~l", x.coefficient(1, 23), 1);
    }

    static void promise25AddGroupTwice() {
        PseudoBoolean x = Check.with("a + b <= 1");
        x.group(2);
        Check.equal("first", x.addGroup(), 1);
        Check.equal("second", x.addGroup(), 2);
        Check.equal("the same", Check.written(x, 2), "~a + ~b >= 1");
    }

    // ---- decide, undo, decisionCount

    static void promise26DecideOfTheFirstAndTheLastLiteral() {
        Check.equal("decide(0)", new PseudoBoolean().decide(0), 1);
        Check.equal("decide(23)", new PseudoBoolean().decide(23), 1);
        PseudoBoolean x = new PseudoBoolean();
        Check.fails("decide(24)", Check.INDEX, () -> x.decide(24));
        Check.fails("decide(-1)", Check.INDEX, () -> x.decide(-1));
        Check.fails("the greatest", Check.INDEX, () -> x.decide(GREATEST));
        Check.fails("the least", Check.INDEX, () -> x.decide(LEAST));
    }

    static void promise26DecideOfTheTwelfthVariable() {
        PseudoBoolean x = new PseudoBoolean();
        for (int variable = 0; variable < 12; variable++) {
            Check.equal("decide variable " + variable, x.decide(2 * variable + 1), variable + 1);
        }
        for (int literal = 0; literal < 24; literal++) {
            int again = literal;
            Check.failsLeaving(x, "decide(" + literal + ")", Check.STATE, () -> x.decide(again));
        }
    }

    static void promise26DecideThatGivesAllValuesAtOnce() {
        PseudoBoolean x = Check.with("11a-b-c-d-e-f-g-h-i-j-k-l <= 0");
        Check.equal("decide(a)", x.decide(0), 12);
        Check.equal("l", x.value(11), 1);
    }

    static void promise26DecideWithASlackOf0AndOfLess() {
        PseudoBoolean x = Check.with("a + b + c >= 1");
        Check.equal("~a", x.decide(1), 1);
        Check.equal("~b: slack 0", x.decide(3), 3);
        PseudoBoolean y = Check.with("2a + b >= 2", "2a + b <= 2");
        Check.equal("a and ~b", y.value(1), 0);
        PseudoBoolean z = Check.with("a + b >= 1", "a + ~b >= 1");
        Check.equal("~a: slack -1", z.decide(1), -1);
    }

    static void promise26DecideIntoAConflictIsNotKept() {
        PseudoBoolean x = Check.with("a + b >= 1", "a + ~b >= 1");
        x.decide(22);
        long before = x.digest();
        Check.equal("~a", x.decide(1), -1);
        Check.equal("all is as before", x.digest(), before);
        Check.no("no conflict", x.isConflicting());
        Check.equal("a", x.decide(0), 2);
    }

    static void promise26DecideInAConflict() {
        PseudoBoolean x = withoutModels();
        for (int literal = 0; literal < 24; literal++) {
            int one = literal;
            Check.failsLeaving(x, "decide(" + literal + ")", Check.STATE, () -> x.decide(one));
        }
        Check.fails("decide(24)", Check.INDEX, () -> x.decide(24));
        Check.fails("decide(-1)", Check.INDEX, () -> x.decide(-1));
    }

    static void promise27UndoOfNoDecision() {
        PseudoBoolean x = Check.with("a >= 1");
        Check.failsLeaving(x, "undo, though a has a value", Check.STATE, x::undo);
    }

    static void promise27UndoOfTheLastDecision() {
        PseudoBoolean x = new PseudoBoolean();
        x.decide(0);
        Check.equal("undo", x.undo(), 0);
        Check.equal("a", x.value(0), -1);
        Check.failsLeaving(x, "undo", Check.STATE, x::undo);
    }

    static void promise27UndoOfTwelveDecisions() {
        PseudoBoolean x = new PseudoBoolean();
        for (int variable = 0; variable < 12; variable++) {
            x.decide(2 * variable);
        }
        for (int left = 11; left >= 0; left--) {
            Check.equal("undo", x.undo(), left);
            Check.equal("the latest is open", x.value(left), -1);
            Check.equal("the first", x.value(0), left > 0 ? 1 : -1);
        }
        Check.failsLeaving(x, "undo", Check.STATE, x::undo);
    }

    static void promise27UndoBehindADecisionThatWasNotKept() {
        PseudoBoolean x = Check.with("a + b >= 1", "a + ~b >= 1");
        Check.equal("~a", x.decide(1), -1);
        Check.failsLeaving(x, "undo", Check.STATE, x::undo);
    }

    static void promise27UndoThatLeavesTheConflict() {
        PseudoBoolean x = new PseudoBoolean();
        x.decide(0);
        x.decide(2);
        Check.post(x, "a <= 0");
        Check.equal("undo of b", x.undo(), 1);
        Check.yes("a is still the conflict", x.isConflicting());
        Check.equal("undo of a", x.undo(), 0);
        Check.no("no conflict", x.isConflicting());
    }

    static void promise27UndoBelowAPush() {
        PseudoBoolean x = new PseudoBoolean();
        x.decide(0);
        x.push();
        Check.equal("undo in the level", x.undo(), 0);
        Check.equal("pop", x.pop(), 0);
        Check.equal("a is decided again", x.decisionCount(), 1);
        Check.equal("a", x.value(0), 1);
    }

    static void promise28DecisionCountFrom0To12() {
        PseudoBoolean x = new PseudoBoolean();
        Check.equal("at first", x.decisionCount(), 0);
        for (int variable = 11; variable >= 0; variable--) {
            x.decide(2 * variable + 1);
            Check.equal("behind decide", x.decisionCount(), 12 - variable);
        }
        Check.fails("decide(0)", Check.STATE, () -> x.decide(0));
        Check.equal("behind a refused one", x.decisionCount(), 12);
    }

    static void promise28DecisionCountBehindAConflict() {
        PseudoBoolean x = Check.with("a + b >= 1", "a + ~b >= 1");
        x.decide(1);
        Check.equal("it was not kept", x.decisionCount(), 0);
    }

    // ---- isConflicting, value

    static void promise29IsConflictingAroundASlackOf0() {
        Check.no("slack 1", Check.with("a + b >= 1").isConflicting());
        Check.no("slack 0", Check.with("a + b >= 2").isConflicting());
        Check.yes("slack -1", Check.with("a + b >= 3").isConflicting());
    }

    static void promise29IsConflictingWithoutTerms() {
        Check.no("no constraint", new PseudoBoolean().isConflicting());
        Check.no("degree 0", Check.with("0a >= 0").isConflicting());
        Check.yes("degree 1", Check.with("0a >= 1").isConflicting());
    }

    static void promise29IsConflictingByTheSixtiethConstraint() {
        PseudoBoolean x = new PseudoBoolean();
        while (x.constraintCount() < 59) {
            Check.post(x, "a >= 1");
        }
        Check.no("before it", x.isConflicting());
        Check.post(x, "a <= 0");
        Check.yes("behind it", x.isConflicting());
    }

    static void promise29IsConflictingAtTheEndOfALongPropagation() {
        // The constraints are looked at from the front, so each round gives one value, the last one
        // a conflict behind twelve values.
        PseudoBoolean x = Check.with("l + ~k >= 1", "~l + ~k >= 1");
        for (char c = 'k'; c > 'a'; c--) {
            Check.post(x, c + " + ~" + (char) (c - 1) + " >= 1");
        }
        Check.equal("decide(a)", x.decide(0), -1);
        Check.equal("decide(~a)", x.decide(1), 1);
        x.undo();
        Check.post(x, "a >= 1");
        Check.yes("a conflict", x.isConflicting());
    }

    static void promise30ValueOfTheFirstAndTheLastVariable() {
        PseudoBoolean x = Check.with("a + ~l >= 2");
        Check.equal("value(0)", x.value(0), 1);
        Check.equal("value(11)", x.value(11), 0);
        Check.equal("value(5)", x.value(5), -1);
        Check.fails("value(12)", Check.INDEX, () -> x.value(12));
        Check.fails("value(-1)", Check.INDEX, () -> x.value(-1));
        Check.fails("the greatest", Check.INDEX, () -> x.value(GREATEST));
        Check.fails("the least", Check.INDEX, () -> x.value(LEAST));
    }

    static void promise30ValueWhereTheCoefficientIsAroundTheSlack() {
        PseudoBoolean equal = Check.with("2a + b + c >= 2");
        Check.equal("2 with slack 2", equal.value(0), -1);
        PseudoBoolean greater = Check.with("2a + b + c >= 3");
        Check.equal("2 with slack 1", greater.value(0), 1);
        Check.equal("1 with slack 1", greater.value(1), -1);
    }

    static void promise30ValueWithASlackOf0() {
        PseudoBoolean x = Check.with("a + 0b + 5~l >= 6");
        Check.equal("a", x.value(0), 1);
        Check.equal("b, whose term vanished", x.value(1), -1);
        Check.equal("l", x.value(11), 0);
    }

    static void promise30ValueInAConflict() {
        PseudoBoolean x = Check.with("a >= 1");
        x.decide(22);
        Check.post(x, "0a >= 1");
        for (int variable = 0; variable < 12; variable++) {
            Check.equal("value(" + variable + ")", x.value(variable), -1);
        }
    }

    static void promise30ValueFromGreatNumbers() {
        PseudoBoolean x = Check.with("999999a + 999999b + 999999c >= 999999");
        x.multiple(0, 1000);
        // The slack of 1999998000 is greater than each coefficient; the sum does not fit an int.
        Check.equal("a", x.value(0), -1);
        Check.no("no conflict", x.isConflicting());
        Check.equal("~a", x.decide(1), 1);
        Check.equal("~b: c follows", x.decide(3), 3);
    }

    // ---- firstModel, nextModel, modelCount, isForced

    static void promise31FirstModelOf0AndOf4095() {
        Check.equal("0", new PseudoBoolean().firstModel(), 0);
        Check.equal("4095", Check.with(ALL + " >= 12").firstModel(), 4095);
        Check.equal("-1", Check.with(ALL + " >= 13").firstModel(), -1);
    }

    static void promise31FirstModelWithAllDecided() {
        PseudoBoolean x = new PseudoBoolean();
        for (int variable = 0; variable < 12; variable++) {
            x.decide(2 * variable);
        }
        Check.equal("4095", x.firstModel(), 4095);
        Check.equal("alone", x.modelCount(), 1);
        Check.equal("none behind it", x.nextModel(4095), -1);
    }

    static void promise31FirstModelInAConflict() {
        PseudoBoolean x = new PseudoBoolean();
        x.decide(0);
        Check.post(x, "a <= 0");
        Check.equal("none has a", x.firstModel(), -1);
        x.undo();
        Check.equal("0", x.firstModel(), 0);
    }

    static void promise32NextModelOfTheFirstAndTheLastMask() {
        PseudoBoolean x = new PseudoBoolean();
        Check.equal("behind 0", x.nextModel(0), 1);
        Check.equal("behind 4094", x.nextModel(4094), 4095);
        Check.equal("behind 4095", x.nextModel(4095), -1);
        Check.fails("behind -1", Check.ARGUMENT, () -> x.nextModel(-1));
        Check.fails("behind 4096", Check.ARGUMENT, () -> x.nextModel(4096));
        Check.fails("behind the greatest", Check.ARGUMENT, () -> x.nextModel(GREATEST));
        Check.fails("behind the least", Check.ARGUMENT, () -> x.nextModel(LEAST));
    }

    static void promise32NextModelOfNone() {
        PseudoBoolean x = withoutModels();
        Check.equal("behind 0", x.nextModel(0), -1);
        Check.equal("behind 4095", x.nextModel(4095), -1);
        Check.fails("behind 4096", Check.ARGUMENT, () -> x.nextModel(4096));
    }

    static void promise32NextModelIsGreaterThanTheMask() {
        PseudoBoolean x = Check.with("l >= 1", "a >= 1");
        Check.equal("behind 0", x.nextModel(0), 2049);
        Check.equal("behind 2048", x.nextModel(2048), 2049);
        Check.equal("behind 2049", x.nextModel(2049), 2051);
        Check.equal("behind 2050", x.nextModel(2050), 2051);
    }

    static void promise33ModelCountFrom0To4096() {
        Check.equal("4096", new PseudoBoolean().modelCount(), 4096);
        Check.equal("4095", Check.with(ALL + " >= 1").modelCount(), 4095);
        Check.equal("1", Check.with(ALL + " >= 12").modelCount(), 1);
        Check.equal("1", Check.with(ALL + " <= 0").modelCount(), 1);
        Check.equal("0", Check.with(ALL + " >= 13").modelCount(), 0);
    }

    static void promise33ModelCountInAConflict() {
        PseudoBoolean x = new PseudoBoolean();
        x.decide(23);
        Check.post(x, "l >= 1");
        Check.equal("none without l", x.modelCount(), 0);
        x.undo();
        Check.equal("half of them", x.modelCount(), 2048);
    }

    static void promise34IsForcedOfTheFirstAndTheLastLiteral() {
        PseudoBoolean x = Check.with("a >= 1", "l <= 0");
        Check.yes("0", x.isForced(0));
        Check.no("1", x.isForced(1));
        Check.no("22", x.isForced(22));
        Check.yes("23", x.isForced(23));
        Check.fails("24", Check.INDEX, () -> x.isForced(24) ? 1 : 0);
        Check.fails("-1", Check.INDEX, () -> x.isForced(-1) ? 1 : 0);
    }

    static void promise34IsForcedOfEachLiteralAlone() {
        for (int forced = 0; forced < 24; forced++) {
            PseudoBoolean x = new PseudoBoolean();
            x.decide(forced);
            for (int literal = 0; literal < 24; literal++) {
                Check.equal(literal + " by " + forced, x.isForced(literal) ? 1 : 0, literal == forced ? 1 : 0);
            }
        }
    }

    static void promise34IsForcedWithoutModels() {
        PseudoBoolean x = withoutModels();
        for (int literal = 0; literal < 24; literal++) {
            Check.yes("literal " + literal, x.isForced(literal));
        }
        Check.fails("24", Check.INDEX, () -> x.isForced(24) ? 1 : 0);
    }

    static void promise34IsForcedWithoutModelsOfTheDecisions() {
        PseudoBoolean x = new PseudoBoolean();
        x.decide(0);
        Check.post(x, "a <= 0");
        Check.yes("b", x.isForced(2));
        Check.yes("~b", x.isForced(3));
        x.undo();
        Check.no("b", x.isForced(2));
        Check.no("~b", x.isForced(3));
    }

    static void promise34IsForcedByAllButOneModel() {
        PseudoBoolean x = Check.with("11a + b+c+d+e+f+g+h+i+j+k+l >= 11");
        Check.no("a, as one model lacks it", x.isForced(0));
        Check.equal("that one", x.nextModel(4093), 4094);
        Check.post(x, "11a + b+c+d+e+f+g+h+i+j+k+l >= 12");
        Check.yes("a, as none lacks it", x.isForced(0));
    }

    // ---- setCost, leastCost, cheapestModel

    static void promise35SetCostOfTheFirstAndTheLastVariable() {
        PseudoBoolean x = new PseudoBoolean();
        Check.equal("0", x.setCost(0, 1), 0);
        Check.equal("11", x.setCost(11, 2), 0);
        Check.equal("0 again", x.setCost(0, 0), 1);
        Check.equal("11 again", x.setCost(11, 0), 2);
        Check.fails("12", Check.INDEX, () -> x.setCost(12, 0));
        Check.fails("-1", Check.INDEX, () -> x.setCost(-1, 0));
    }

    static void promise35SetCostUpTo1000() {
        PseudoBoolean x = new PseudoBoolean();
        Check.equal("1000", x.setCost(3, 1000), 0);
        Check.equal("999", x.setCost(3, 999), 1000);
        Check.failsLeaving(x, "1001", Check.ARGUMENT, () -> x.setCost(3, 1001));
        Check.failsLeaving(x, "the greatest", Check.ARGUMENT, () -> x.setCost(3, GREATEST));
        Check.equal("999 is kept", x.setCost(3, 0), 999);
    }

    static void promise35SetCostDownToMinus1000() {
        PseudoBoolean x = new PseudoBoolean();
        Check.equal("-1000", x.setCost(3, -1000), 0);
        Check.equal("-999", x.setCost(3, -999), -1000);
        Check.failsLeaving(x, "-1001", Check.ARGUMENT, () -> x.setCost(3, -1001));
        Check.failsLeaving(x, "the least", Check.ARGUMENT, () -> x.setCost(3, LEAST));
        Check.equal("-999 is kept", x.setCost(3, 0), -999);
    }

    static void promise35SetCostToTheSame() {
        PseudoBoolean x = new PseudoBoolean();
        Check.equal("0", x.setCost(5, 0), 0);
        Check.equal("7", x.setCost(5, 7), 0);
        Check.equal("7 again", x.setCost(5, 7), 7);
    }

    private static PseudoBoolean withCosts(int cost, String... texts) {
        PseudoBoolean x = Check.with(texts);
        for (int variable = 0; variable < 12; variable++) {
            x.setCost(variable, cost);
        }
        return x;
    }

    static void promise36LeastCostOfTheGreatestSums() {
        Check.equal("-12000", withCosts(-1000).leastCost(), -12000);
        Check.equal("12000", withCosts(1000, ALL + " >= 12").leastCost(), 12000);
        Check.equal("0", withCosts(1000).leastCost(), 0);
        Check.equal("0 for no variable", withCosts(-1000, ALL + " <= 0").leastCost(), 0);
    }

    static void promise36LeastCostOfNone() {
        PseudoBoolean x = withoutModels();
        Check.failsLeaving(x, "leastCost", Check.ELEMENT, x::leastCost);
    }

    static void promise36LeastCostWithAllDecided() {
        PseudoBoolean x = withCosts(3);
        for (int variable = 0; variable < 12; variable++) {
            x.decide(2 * variable + variable % 2);
        }
        Check.equal("six are true", x.leastCost(), 18);
    }

    static void promise37CheapestModelOf0AndOf4095() {
        Check.equal("0", withCosts(1).cheapestModel(), 0);
        Check.equal("4095", withCosts(-1).cheapestModel(), 4095);
        Check.equal("none", Check.with(ALL + " >= 12").cheapestModel(), 4095);
    }

    static void promise37CheapestModelIsTheLeastOfSeveral() {
        Check.equal("without costs", new PseudoBoolean().cheapestModel(), 0);
        Check.equal("one of twelve", withCosts(1, ALL + " >= 1").cheapestModel(), 1);
        Check.equal("eleven of twelve", withCosts(-1, ALL + " <= 11").cheapestModel(), 2047);
    }

    static void promise37CheapestModelIsAModel() {
        // Without g, and with g alone it would be cheaper.
        PseudoBoolean x = Check.with("g <= 0");
        x.setCost(6, -5);
        Check.equal("0", x.cheapestModel(), 0);
        Check.equal("its cost", x.leastCost(), 0);
        // Each variable in turn: it is the cheapest one, but it must be false.
        for (int variable = 0; variable < 12; variable++) {
            PseudoBoolean y = Check.with((char) ('a' + variable) + " <= 0");
            y.setCost(variable, -1000);
            Check.equal("without " + variable, y.cheapestModel(), 0);
        }
    }

    static void promise37CheapestModelOfNone() {
        PseudoBoolean x = withoutModels();
        Check.failsLeaving(x, "cheapestModel", Check.ELEMENT, x::cheapestModel);
        PseudoBoolean y = new PseudoBoolean();
        y.decide(0);
        Check.post(y, "a <= 0");
        Check.failsLeaving(y, "cheapestModel in a conflict", Check.ELEMENT, y::cheapestModel);
    }

    // ---- explain, reasonLiteral

    private static void hasReason(PseudoBoolean x, int yes, int no, int... due) {
        String call = "explain(" + yes + ", " + no + ")";
        Check.equal(call, x.explain(yes, no), due.length);
        for (int i = 0; i < due.length; i++) {
            Check.equal("literal " + i + " of " + call, x.reasonLiteral(i), due[i]);
        }
        Check.fails("behind " + call, Check.INDEX, () -> x.reasonLiteral(due.length));
    }

    static void promise38ExplainOfTheFirstAndTheLastMask() {
        PseudoBoolean x = Check.with(ALL + " <= 11", ALL + " >= 1");
        hasReason(x, 4095, 0, 0, 2, 4, 6, 8, 10, 12, 14, 16, 18, 20, 22);
        hasReason(x, 0, 4095, 1, 3, 5, 7, 9, 11, 13, 15, 17, 19, 21, 23);
        Check.failsLeaving(x, "4096 and 0", Check.ARGUMENT, () -> x.explain(4096, 0));
        Check.failsLeaving(x, "0 and 4096", Check.ARGUMENT, () -> x.explain(0, 4096));
        Check.failsLeaving(x, "-1 and 0", Check.ARGUMENT, () -> x.explain(-1, 0));
        Check.failsLeaving(x, "0 and -1", Check.ARGUMENT, () -> x.explain(0, -1));
        Check.equal("the reason is kept", x.reasonLiteral(11), 23);
    }

    static void promise38ExplainOfMasksWithACommonVariable() {
        PseudoBoolean x = withoutModels();
        for (int variable = 0; variable < 12; variable++) {
            int bit = 1 << variable;
            Check.failsLeaving(x, "variable " + variable, Check.ARGUMENT, () -> x.explain(bit, bit));
        }
        Check.failsLeaving(x, "all", Check.ARGUMENT, () -> x.explain(4095, 4095));
        Check.equal("none", x.explain(1365, 2730), 0);
    }

    static void promise38ExplainOfNoLiterals() {
        PseudoBoolean x = new PseudoBoolean();
        Check.failsLeaving(x, "a model is there", Check.ELEMENT, () -> x.explain(0, 0));
        hasReason(withoutModels(), 0, 0);
    }

    static void promise38ExplainOfAnEmptyReason() {
        PseudoBoolean x = withoutModels();
        hasReason(x, 4095, 0);
        hasReason(x, 0, 4095);
        hasReason(x, 1, 2);
    }

    static void promise38ExplainOfAnEmptyReasonByTheDecisions() {
        PseudoBoolean x = new PseudoBoolean();
        x.decide(0);
        Check.post(x, "a <= 0");
        hasReason(x, 2, 0);
        x.undo();
        Check.fails("b alone has a model", Check.ELEMENT, () -> x.explain(2, 0));
        hasReason(x, 3, 0, 0);
    }

    /** Of two reasons the one that remains has the later literals, as the earlier ones go first. */
    static void promise38ExplainRemovesTheFirstLiteralFirst() {
        PseudoBoolean x = Check.with("a + b <= 1", "k + l <= 1");
        hasReason(x, 3075, 0, 20, 22);
        PseudoBoolean y = Check.with("a + l <= 1", "b + l <= 1", "a + ~c <= 1");
        hasReason(y, 2051, 0, 2, 22);
        hasReason(y, 2051, 4, 2, 22);
        hasReason(y, 2049, 4, 0, 22);
        hasReason(y, 1, 4, 0, 5);
    }

    static void promise38ExplainOfTheOnlyLiteral() {
        hasReason(Check.with("a <= 0"), 1, 0, 0);
        hasReason(Check.with("l >= 1"), 0, 2048, 23);
    }

    static void promise38ExplainAgainstADecision() {
        PseudoBoolean x = new PseudoBoolean();
        x.decide(0);
        hasReason(x, 0, 1, 1);
        hasReason(x, 4094, 1, 1);
        Check.fails("the decided literal itself", Check.ELEMENT, () -> x.explain(1, 0));
    }

    static void promise39ReasonLiteralWithoutAReason() {
        PseudoBoolean x = new PseudoBoolean();
        Check.fails("reasonLiteral(0)", Check.INDEX, () -> x.reasonLiteral(0));
        Check.fails("explain", Check.ELEMENT, () -> x.explain(1, 2));
        Check.fails("reasonLiteral(0) behind a refused explain", Check.INDEX, () -> x.reasonLiteral(0));
    }

    static void promise39ReasonLiteralOfAnEmptyReason() {
        PseudoBoolean x = Check.with("a <= 0");
        hasReason(x, 1, 0, 0);
        Check.post(x, "0a >= 1");
        hasReason(x, 1, 0);
        Check.fails("reasonLiteral(0)", Check.INDEX, () -> x.reasonLiteral(0));
        Check.fails("reasonLiteral(-1)", Check.INDEX, () -> x.reasonLiteral(-1));
    }

    static void promise39ReasonLiteralOfTheFirstAndTheLast() {
        PseudoBoolean x = Check.with("a + ~e + l <= 2");
        hasReason(x, 2049, 16, 0, 9, 22);
        Check.fails("-1", Check.INDEX, () -> x.reasonLiteral(-1));
        Check.fails("the greatest", Check.INDEX, () -> x.reasonLiteral(GREATEST));
        Check.fails("the least", Check.INDEX, () -> x.reasonLiteral(LEAST));
    }

    static void promise39ReasonLiteralKeptUntilTheNextSuccessfulCall() {
        PseudoBoolean x = Check.with("a + b <= 1", "c + d <= 1");
        hasReason(x, 3, 0, 0, 2);
        Check.fails("a model is there", Check.ELEMENT, () -> x.explain(1, 2));
        Check.fails("a wrong mask", Check.ARGUMENT, () -> x.explain(4096, 0));
        Check.post(x, "0a >= 1");
        x.push();
        x.pop();
        Check.equal("kept", x.reasonLiteral(1), 2);
        x.group(0);
        Check.equal("kept by group", x.reasonLiteral(0), 0);
    }
}
