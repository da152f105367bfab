/**
 * Each refused call: it throws the exception that is named first, and changes nothing. For that a
 * twin of the object, on which the call was not made, must tell the same story afterwards.
 */
final class RefusalTest {
    private static final int LEAST = Integer.MIN_VALUE;
    private static final int GREATEST = Integer.MAX_VALUE;

    public static void main(String[] args) {
        Check.runPromises(RefusalTest.class);
    }

    private interface Maker {
        PseudoBoolean make();
    }

    private interface CallOn {
        long answer(PseudoBoolean x);
    }

    private static void refused(
            String what, Class<? extends RuntimeException> kind, Maker maker, CallOn call) {
        PseudoBoolean called = maker.make();
        PseudoBoolean twin = maker.make();
        Check.fails(what, kind, () -> call.answer(called));
        Check.equal("the story behind " + what, Story.of(called), Story.of(twin));
    }

    /** A refused post or isImplied empties the buffer and sets errorPosition; all else stays. */
    private static void refusedText(
            String what, Class<? extends RuntimeException> kind, int position, Maker maker, CallOn call) {
        PseudoBoolean called = maker.make();
        PseudoBoolean twin = maker.make();
        Check.fails(what, kind, () -> call.answer(called));
        Check.equal("errorPosition() behind " + what, called.errorPosition(), position);
        twin.trim(0);
        String due = Story.withoutErrorPosition(twin);
        Check.equal("the story behind " + what, Story.withoutErrorPosition(called), due);
    }

    /** A method that takes the number of a constraint, on objects with none, with 4, and with 60. */
    private static void refusesNumbers(String method, CallWithNumber call) {
        refusesNumber(method, call, PseudoBoolean::new, 0, -1, 59, LEAST, GREATEST);
        refusesNumber(method, call, Scenes::busy, 4, -1, 60, LEAST, GREATEST);
        refusesNumber(method, call, Scenes::full, 60, -1, LEAST, GREATEST);
        refusesNumber(method, call, Scenes::conflicting, 5, -1);
    }

    private interface CallWithNumber {
        long answer(PseudoBoolean x, int number);
    }

    private static void refusesNumber(
            String method, CallWithNumber call, Maker maker, int... numbers) {
        for (int number : numbers) {
            refused(method + "(" + number + ")", Check.INDEX, maker, x -> call.answer(x, number));
        }
    }

    /** A refusal can only be seen to change nothing where there is something to change. */
    static void promise00TheScenesHaveSomethingInEveryPart() {
        PseudoBoolean x = Scenes.busy();
        Check.equal("constraints", x.constraintCount(), 4);
        Check.equal("decisions", x.decisionCount(), 2);
        Check.equal("the first literal of the group", x.groupLiteral(0), 20);
        Check.equal("the last literal of the group", x.groupLiteral(1), 22);
        Check.equal("the first literal of the reason", x.reasonLiteral(0), 20);
        Check.equal("the last literal of the reason", x.reasonLiteral(1), 22);
        Check.equal("the last byte of the output", x.outputByte(11), '1');
        Check.equal("error", x.errorPosition(), 3);
        Check.equal("the cost of a", x.setCost(0, 5), 5);
        Check.equal("the cost of l", x.setCost(11, -7), -7);
        Check.equal("f follows", x.value(5), 1);
        Check.equal("the buffer", x.feed(0, 0, 0, 0, 0), 30);
        Check.equal("one level", x.pop(), 0);
        Check.equal("constraints below", x.constraintCount(), 3);
        Check.equal("sixty", Scenes.full().constraintCount(), 60);
        Check.yes("a conflict", Scenes.conflicting().isConflicting());
        Check.equal("eight levels", Scenes.withEightLevels().pop(), 7);
        PseudoBoolean great = Scenes.greatNumbers();
        Check.equal("number 6", Check.written(great, 6), "999999000a >= 0");
        Check.equal("number 7", Check.written(great, 7), "999999000~a >= 0");
        Check.equal("number 8", Check.written(great, 8), "~a + 2b >= 0");
        Check.no("no conflict", great.isConflicting());
        PseudoBoolean without = Scenes.withoutModels();
        without.undo();
        without.undo();
        Check.equal("no models", without.modelCount(), 0);
    }

    // ---- texts

    static void promise02Feed() {
        refusedFeedAt(181);
        refusedFeedAt(199);
        refusedFeedAt(200);
    }

    private static void refusedFeedAt(int length) {
        String text = "h + i >= 1" + Check.repeated(" ", length - 10);
        refused("feed at " + length, Check.STATE,
                () -> Scenes.busyWith(text), x -> x.feed(1, 2, 3, 4, 5));
        PseudoBoolean x = Scenes.busyWith(text);
        Check.fails("feed at " + length, Check.STATE, () -> x.feed(1, 2, 3, 4, 5));
        Check.fails("no byte more than " + length, Check.ARGUMENT, () -> x.trim(length + 1));
        Check.equal("no byte less than " + length, x.trim(length), length);
    }

    static void promise03Trim() {
        refused("trim(11) of 10", Check.ARGUMENT, Scenes::busy, x -> x.trim(11));
        refused("trim(-1)", Check.ARGUMENT, Scenes::busy, x -> x.trim(-1));
        refused("trim of the least", Check.ARGUMENT, Scenes::busy, x -> x.trim(LEAST));
        refused("trim of the greatest", Check.ARGUMENT, Scenes::busy, x -> x.trim(GREATEST));
        refused("trim(1) of none", Check.ARGUMENT, PseudoBoolean::new, x -> x.trim(1));
        refused("trim(-1) of none", Check.ARGUMENT, PseudoBoolean::new, x -> x.trim(-1));
    }

    static void promise04PostOfAnError() {
        refusedText("an error", Check.ARGUMENT, 4,
                () -> Scenes.busyWith("a + >= 1"), PseudoBoolean::post);
        refusedText("no text", Check.ARGUMENT, 0, () -> Scenes.busyWith(""), PseudoBoolean::post);
        refusedText("no text", Check.ARGUMENT, 0, PseudoBoolean::new, PseudoBoolean::post);
        refusedText("a correct beginning", Check.ARGUMENT, 4,
                () -> Scenes.busyWith("a = "), PseudoBoolean::post);
        refusedText("a correct text and more", Check.ARGUMENT, 6,
                () -> Scenes.busyWith("a >= 1a"), PseudoBoolean::post);
    }

    static void promise04PostWithoutRoom() {
        refusedText("one at 60", Check.STATE, -1, Scenes::full, PseudoBoolean::post);
        refusedText("two at 60", Check.STATE, -1,
                () -> Scenes.filledWith(60, "a = 1"), PseudoBoolean::post);
        // Not even the first one of the two is added.
        refusedText("two at 59", Check.STATE, -1,
                () -> Scenes.filledWith(59, "a = 1"), PseudoBoolean::post);
    }

    static void promise04PostOfAnErrorComesBeforeTheRoom() {
        refusedText("an error at 60", Check.ARGUMENT, 5,
                () -> Scenes.filledWith(60, "a >= b"), PseudoBoolean::post);
        refusedText("an error in two at 59", Check.ARGUMENT, 4,
                () -> Scenes.filledWith(59, "a = b"), PseudoBoolean::post);
    }

    static void promise05IsImplied() {
        CallOn isImplied = x -> x.isImplied() ? 1 : 0;
        refusedText("an error", Check.ARGUMENT, 2, () -> Scenes.busyWith("a ? 1"), isImplied);
        refusedText("no text", Check.ARGUMENT, 0, () -> Scenes.busyWith(""), isImplied);
        refusedText("no text", Check.ARGUMENT, 0, PseudoBoolean::new, isImplied);
        refusedText("an error at 60", Check.ARGUMENT, 2,
                () -> Scenes.filledWith(60, "a ? 1"), isImplied);
        refusedText("an error without models", Check.ARGUMENT, 5,
                () -> Scenes.withText(Scenes.withoutModels(), "a >= "), isImplied);
    }

    static void promise07Write() {
        refusesNumbers("write", PseudoBoolean::write);
    }

    static void promise08OutputByte() {
        refusesNumber("outputByte of none", PseudoBoolean::outputByte, PseudoBoolean::new, 0, -1, 1, LEAST, GREATEST);
        // The output is "~k + ~l >= 1".
        refusesNumber("outputByte of 12", PseudoBoolean::outputByte, Scenes::busy, 12, -1, 191, LEAST, GREATEST);
    }

    // ---- constraints

    static void promise10To14() {
        refusesNumbers("termCount", PseudoBoolean::termCount);
        refusesNumbers("degree", PseudoBoolean::degree);
        refusesNumbers("slack", PseudoBoolean::slack);
        refusesNumbers("cardinality", PseudoBoolean::cardinality);
        refusesNumbers("coefficient", (x, c) -> x.coefficient(c, 0));
        refusesNumbers("coefficient of no literal", (x, c) -> x.coefficient(c, 24));
        refusesNumber("coefficient of", (x, literal) -> x.coefficient(0, literal), Scenes::busy, -1, 24, LEAST, GREATEST);
    }

    // ---- cutting planes

    static void promise15SumOfNoConstraints() {
        refusesNumbers("sum of the first", (x, c) -> x.sum(c, 0));
        refusesNumbers("sum of the second", (x, d) -> x.sum(0, d));
        refusesNumbers("sum of both", (x, c) -> x.sum(c, c));
    }

    static void promise15Sum() {
        refused("sum at 60", Check.STATE, Scenes::full, x -> x.sum(0, 1));
        refused("sum too great", Check.ARITHMETIC, Scenes::greatNumbers, x -> x.sum(6, 6));
        refused("sum too great at 60", Check.STATE, Scenes::fullOfGreatNumbers, x -> x.sum(6, 6));
    }

    static void promise16MultipleOfNoConstraint() {
        refusesNumbers("multiple", (x, c) -> x.multiple(c, 1));
        refusesNumbers("multiple by 0", (x, c) -> x.multiple(c, 0));
        refusesNumbers("multiple by 1001", (x, c) -> x.multiple(c, 1001));
    }

    static void promise16Multiple() {
        for (int factor : new int[] {0, 1001, -1, LEAST, GREATEST}) {
            refused("multiple by " + factor, Check.ARGUMENT, Scenes::busy, x -> x.multiple(0, factor));
            refused("multiple by " + factor + " at 60", Check.ARGUMENT,
                    Scenes::full, x -> x.multiple(0, factor));
            refused("too great by " + factor, Check.ARGUMENT,
                    Scenes::greatNumbers, x -> x.multiple(6, factor));
            refused("too great by " + factor + " at 60", Check.ARGUMENT,
                    Scenes::fullOfGreatNumbers, x -> x.multiple(6, factor));
        }
        refused("multiple at 60", Check.STATE, Scenes::full, x -> x.multiple(0, 1));
        refused("multiple too great", Check.ARITHMETIC, Scenes::greatNumbers, x -> x.multiple(6, 2));
        refused("multiple too great at 60", Check.STATE,
                Scenes::fullOfGreatNumbers, x -> x.multiple(6, 2));
    }

    static void promise17Quotient() {
        refusesNumbers("quotient", (x, c) -> x.quotient(c, 1));
        refusesNumbers("quotient by 0", (x, c) -> x.quotient(c, 0));
        for (int divisor : new int[] {0, -1, LEAST}) {
            refused("quotient by " + divisor, Check.ARGUMENT, Scenes::busy, x -> x.quotient(0, divisor));
            refused("quotient by " + divisor + " at 60", Check.ARGUMENT,
                    Scenes::full, x -> x.quotient(0, divisor));
        }
        refused("quotient at 60", Check.STATE, Scenes::full, x -> x.quotient(0, 1));
    }

    static void promise18Saturation() {
        refusesNumbers("saturation", PseudoBoolean::saturation);
        refused("saturation at 60", Check.STATE, Scenes::full, x -> x.saturation(0));
    }

    static void promise19Weakening() {
        refusesNumbers("weakening", (x, c) -> x.weakening(c, 0));
        refusesNumbers("weakening by a literal that is not there", (x, c) -> x.weakening(c, 11));
        for (int variable : new int[] {-1, 12, LEAST, GREATEST}) {
            refused("weakening by " + variable, Check.INDEX,
                    Scenes::busy, x -> x.weakening(0, variable));
            refused("weakening by " + variable + " at 60", Check.INDEX,
                    Scenes::full, x -> x.weakening(0, variable));
        }
        refused("weakening by l", Check.ARGUMENT, Scenes::busy, x -> x.weakening(0, 11));
        refused("weakening by l at 60", Check.ARGUMENT, Scenes::full, x -> x.weakening(0, 11));
        refused("weakening of no terms", Check.ARGUMENT, Scenes::withoutModels, x -> x.weakening(4, 0));
        refused("weakening at 60", Check.STATE, Scenes::full, x -> x.weakening(0, 0));
    }

    static void promise20ResolventOfNoConstraints() {
        refusesNumbers("resolvent of the first", (x, c) -> x.resolvent(c, 1, 0));
        refusesNumbers("resolvent of the second", (x, d) -> x.resolvent(0, d, 0));
        refusesNumbers("resolvent by a variable that is not there", (x, d) -> x.resolvent(0, d, 11));
        for (int variable : new int[] {-1, 12, LEAST, GREATEST}) {
            refused("resolvent by " + variable, Check.INDEX,
                    Scenes::busy, x -> x.resolvent(0, 1, variable));
            refused("resolvent by " + variable + " at 60", Check.INDEX,
                    Scenes::full, x -> x.resolvent(0, 1, variable));
        }
    }

    static void promise20Resolvent() {
        refused("resolvent by l", Check.ARGUMENT, Scenes::busy, x -> x.resolvent(0, 1, 11));
        refused("resolvent by c, which only one has", Check.ARGUMENT,
                Scenes::busy, x -> x.resolvent(0, 1, 2));
        refused("resolvent by d, which only one has", Check.ARGUMENT,
                Scenes::busy, x -> x.resolvent(0, 1, 3));
        refused("resolvent with itself", Check.ARGUMENT, Scenes::busy, x -> x.resolvent(0, 0, 0));
        refused("resolvent by l at 60", Check.ARGUMENT, Scenes::full, x -> x.resolvent(0, 1, 11));
        refused("resolvent at 60", Check.STATE, Scenes::full, x -> x.resolvent(0, 1, 0));
        refused("resolvent too great", Check.ARITHMETIC,
                Scenes::greatNumbers, x -> x.resolvent(6, 8, 0));
        refused("resolvent too great", Check.ARITHMETIC,
                Scenes::greatNumbers, x -> x.resolvent(8, 6, 0));
        refused("resolvent too great at 60", Check.STATE,
                Scenes::fullOfGreatNumbers, x -> x.resolvent(6, 8, 0));
        refused("the same literal in great numbers", Check.ARGUMENT,
                Scenes::fullOfGreatNumbers, x -> x.resolvent(7, 8, 0));
    }

    static void promise21CardinalityConstraint() {
        refusesNumbers("cardinalityConstraint", PseudoBoolean::cardinalityConstraint);
        refused("cardinalityConstraint at 60", Check.STATE,
                Scenes::full, x -> x.cardinalityConstraint(0));
    }

    // ---- exclusions

    /** A method that takes a literal: 0 to 23. */
    private static void refusesLiterals(String method, CallWithNumber call) {
        refusesNumber(method, call, PseudoBoolean::new, -1, 24, LEAST, GREATEST);
        refusesNumber(method, call, Scenes::busy, -1, 24, LEAST, GREATEST);
        refusesNumber(method, call, Scenes::conflicting, -1, 24);
        refusesNumber(method, call, Scenes::withoutModels, -1, 24);
    }

    static void promise22Exclude() {
        refusesLiterals("exclude of the first", (x, first) -> x.exclude(first, 0) ? 1 : 0);
        refusesLiterals("exclude of the second", (x, second) -> x.exclude(0, second) ? 1 : 0);
        refusesLiterals("exclude of both", (x, both) -> x.exclude(both, both) ? 1 : 0);
    }

    static void promise23Group() {
        refusesLiterals("group", PseudoBoolean::group);
    }

    static void promise24GroupLiteral() {
        refusesNumber("groupLiteral of none", PseudoBoolean::groupLiteral, PseudoBoolean::new, 0, -1, LEAST, GREATEST);
        refusesNumber("groupLiteral of two", PseudoBoolean::groupLiteral, Scenes::busy, 2, -1, 24, LEAST, GREATEST);
    }

    static void promise25AddGroup() {
        refused("addGroup of none", Check.ELEMENT, PseudoBoolean::new, PseudoBoolean::addGroup);
        refused("addGroup at 60", Check.STATE, Scenes::full, PseudoBoolean::addGroup);
        refused("addGroup of none at 60", Check.ELEMENT,
                RefusalTest::sixtyWithoutGroup, PseudoBoolean::addGroup);
    }

    private static PseudoBoolean sixtyWithoutGroup() {
        PseudoBoolean x = Check.with("a + b >= 1");
        while (x.constraintCount() < 60) {
            x.saturation(0);
        }
        return x;
    }

    // ---- decisions

    static void promise26Decide() {
        refusesLiterals("decide", PseudoBoolean::decide);
        // Decided are d and ~e; from ~e follow f and g.
        for (int literal : new int[] {6, 7, 8, 9, 10, 11, 12, 13}) {
            refused("decide(" + literal + ") again", Check.STATE, Scenes::busy, x -> x.decide(literal));
        }
        for (int literal : new int[] {0, 6, 9, 23}) {
            refused("decide(" + literal + ") in a conflict", Check.STATE,
                    Scenes::conflicting, x -> x.decide(literal));
        }
    }

    static void promise26DecideIntoAConflictChangesNothing() {
        // It is no exception, but what is answered afterwards is as before.
        PseudoBoolean called = Scenes.busyWith("~a + k >= 1");
        PseudoBoolean twin = Scenes.busyWith("~a + k >= 1");
        for (PseudoBoolean x : new PseudoBoolean[] {called, twin}) {
            x.post();
            Check.post(x, "~a + l >= 1");
        }
        Check.equal("decide(a)", called.decide(0), -1);
        Check.equal("the story behind it", Story.of(called), Story.of(twin));
    }

    static void promise27Undo() {
        refused("undo of none", Check.STATE, PseudoBoolean::new, PseudoBoolean::undo);
        Maker withoutDecisions = () -> {
            PseudoBoolean x = Scenes.busy();
            x.undo();
            x.undo();
            return x;
        };
        refused("undo of none in a level", Check.STATE, withoutDecisions, PseudoBoolean::undo);
        refused("undo of none in a conflict", Check.STATE,
                () -> Check.with("0a >= 1"), PseudoBoolean::undo);
    }

    /** A method that takes a variable: 0 to 11. */
    private static void refusesVariables(String method, CallWithNumber call) {
        refusesNumber(method, call, PseudoBoolean::new, -1, 12, LEAST, GREATEST);
        refusesNumber(method, call, Scenes::busy, -1, 12, LEAST, GREATEST);
        refusesNumber(method, call, Scenes::conflicting, -1, 12);
    }

    static void promise30Value() {
        refusesVariables("value", PseudoBoolean::value);
    }

    // ---- models

    static void promise32NextModel() {
        for (int mask : new int[] {-1, 4096, LEAST, GREATEST}) {
            refused("nextModel(" + mask + ")", Check.ARGUMENT,
                    PseudoBoolean::new, x -> x.nextModel(mask));
            refused("nextModel(" + mask + ")", Check.ARGUMENT, Scenes::busy, x -> x.nextModel(mask));
            refused("nextModel(" + mask + ") of none", Check.ARGUMENT,
                    Scenes::withoutModels, x -> x.nextModel(mask));
        }
    }

    static void promise34IsForced() {
        refusesLiterals("isForced", (x, literal) -> x.isForced(literal) ? 1 : 0);
    }

    static void promise35SetCost() {
        refusesVariables("setCost", (x, variable) -> x.setCost(variable, 1));
        refusesVariables("setCost too great", (x, variable) -> x.setCost(variable, 1001));
        refusesVariables("setCost too small", (x, variable) -> x.setCost(variable, -1001));
        for (int cost : new int[] {-1001, 1001, LEAST, GREATEST}) {
            refused("setCost of a to " + cost, Check.ARGUMENT, Scenes::busy, x -> x.setCost(0, cost));
            refused("setCost of l to " + cost, Check.ARGUMENT, Scenes::busy, x -> x.setCost(11, cost));
        }
    }

    static void promise36LeastCost() {
        refused("leastCost of none", Check.ELEMENT, Scenes::withoutModels, PseudoBoolean::leastCost);
        refused("leastCost in a conflict", Check.ELEMENT, Scenes::conflicting, PseudoBoolean::leastCost);
    }

    static void promise37CheapestModel() {
        refused("cheapestModel of none", Check.ELEMENT,
                Scenes::withoutModels, PseudoBoolean::cheapestModel);
        refused("cheapestModel in a conflict", Check.ELEMENT,
                Scenes::conflicting, PseudoBoolean::cheapestModel);
    }

    static void promise38ExplainOfWrongMasks() {
        int[][] wrong = {
            {-1, 0}, {0, -1}, {4096, 0}, {0, 4096}, {-1, 4096}, {LEAST, 0}, {0, LEAST}, {GREATEST, 0},
            {0, GREATEST}, {1, 1}, {2048, 2048}, {4095, 4095}, {3, 6}, {4095, 1}, {2048, 4095}
        };
        for (int[] masks : wrong) {
            String what = "explain(" + masks[0] + ", " + masks[1] + ")";
            CallOn explain = x -> x.explain(masks[0], masks[1]);
            // On all three: the masks come before the model that is there.
            refused(what, Check.ARGUMENT, PseudoBoolean::new, explain);
            refused(what, Check.ARGUMENT, Scenes::busy, explain);
            refused(what + " without models", Check.ARGUMENT, Scenes::withoutModels, explain);
        }
    }

    static void promise38ExplainWhereAModelIs() {
        refused("no literals", Check.ELEMENT, Scenes::busy, x -> x.explain(0, 0));
        refused("no literals of none", Check.ELEMENT, PseudoBoolean::new, x -> x.explain(0, 0));
        refused("all true", Check.ELEMENT, PseudoBoolean::new, x -> x.explain(4095, 0));
        refused("all false", Check.ELEMENT, PseudoBoolean::new, x -> x.explain(0, 4095));
        refused("k without l", Check.ELEMENT, Scenes::busy, x -> x.explain(1024, 2048));
        refused("the decided literals", Check.ELEMENT, Scenes::busy, x -> x.explain(8, 16));
    }

    static void promise39ReasonLiteral() {
        refusesNumber("reasonLiteral of none", PseudoBoolean::reasonLiteral, PseudoBoolean::new, 0, -1, LEAST, GREATEST);
        refusesNumber("reasonLiteral of two", PseudoBoolean::reasonLiteral, Scenes::busy, 2, -1, 24, LEAST, GREATEST);
        Maker empty = () -> {
            PseudoBoolean x = Scenes.withoutModels();
            x.explain(4095, 0);
            return x;
        };
        refusesNumber("reasonLiteral of an empty one", PseudoBoolean::reasonLiteral, empty, 0, -1, 1);
    }

    // ---- levels

    static void promise40Push() {
        refused("the ninth push", Check.STATE, Scenes::withEightLevels, PseudoBoolean::push);
        Maker conflicting = () -> {
            PseudoBoolean x = Scenes.withEightLevels();
            x.trim(0);
            Check.post(x, "0a >= 1");
            return x;
        };
        refused("the ninth push in a conflict", Check.STATE, conflicting, PseudoBoolean::push);
    }

    static void promise41Pop() {
        refused("pop of none", Check.STATE, PseudoBoolean::new, PseudoBoolean::pop);
        Maker popped = () -> {
            PseudoBoolean x = Scenes.full();
            x.pop();
            return x;
        };
        refused("pop of one more", Check.STATE, popped, PseudoBoolean::pop);
    }
}
