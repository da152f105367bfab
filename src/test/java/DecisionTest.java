/** Promises 26 to 30: decisions, conflicts and values. */
final class DecisionTest {
    public static void main(String[] args) {
        promise26Decide();
        promise26DecideIntoConflict();
        promise27Undo();
        promise28DecisionCount();
        promise29IsConflicting();
        promise30Value();
        propagationInSteps();
        propagationIsNotSearch();
        Check.finish();
    }

    private static void promise26Decide() {
        PseudoBoolean x = Check.with("a + b + c >= 2");
        Check.equal("decide(~a)", x.decide(1), 3);
        Check.failsLeaving(x, "its variable has a value", Check.STATE, () -> x.decide(1));
        Check.failsLeaving(x, "the opposite", Check.STATE, () -> x.decide(0));
        Check.failsLeaving(x, "a propagated variable", Check.STATE, () -> x.decide(2));
        Check.failsLeaving(x, "its opposite", Check.STATE, () -> x.decide(3));
        Check.equal("decide(~l)", x.decide(23), 4);
        Check.fails("decide(24)", Check.INDEX, () -> x.decide(24));
        Check.fails("decide(-1)", Check.INDEX, () -> x.decide(-1));
        Check.equal("two decisions", x.decisionCount(), 2);

        PseudoBoolean y = new PseudoBoolean();
        for (int v = 0; v < 12; v++) {
            Check.equal("decide variable " + v, y.decide(2 * v + v % 2), v + 1);
        }
        Check.equal("all are decided", y.decisionCount(), 12);
        for (int literal = 0; literal < 24; literal++) {
            int one = literal;
            Check.fails("decide again " + literal, Check.STATE, () -> y.decide(one));
        }
    }

    private static void promise26DecideIntoConflict() {
        PseudoBoolean x = Check.with("a + b >= 1", "a + ~b >= 1", "c + d >= 1");
        Check.equal("decide(c)", x.decide(4), 1);
        Check.equal("decide(~a) makes a conflict", x.decide(1), -1);
        Check.equal("it is not kept", x.decisionCount(), 1);
        Check.no("nor the conflict", x.isConflicting());
        Check.equal("a is open again", x.value(0), -1);
        Check.equal("c is kept", x.value(2), 1);
        Check.equal("decide(a)", x.decide(0), 2);

        PseudoBoolean y = Check.with("a >= 2");
        Check.yes("a conflict", y.isConflicting());
        Check.failsLeaving(y, "decide in a conflict", Check.STATE, () -> y.decide(4));
        Check.fails("a wrong literal in a conflict", Check.INDEX, () -> y.decide(24));
    }

    private static void promise27Undo() {
        PseudoBoolean x = Check.with("a + b >= 1");
        Check.failsLeaving(x, "undo of none", Check.STATE, x::undo);
        x.decide(1);
        x.decide(6);
        Check.equal("undo of d", x.undo(), 1);
        Check.equal("d is open", x.value(3), -1);
        Check.equal("b is true still", x.value(1), 1);
        Check.equal("undo of ~a", x.undo(), 0);
        Check.equal("b is open", x.value(1), -1);
        Check.failsLeaving(x, "undo of none again", Check.STATE, x::undo);
        x.decide(0);
        Check.post(x, "~a >= 1");
        Check.yes("a conflict", x.isConflicting());
        Check.equal("undo in a conflict", x.undo(), 0);
        Check.no("ends it", x.isConflicting());
        Check.equal("a is false", x.value(0), 0);
    }

    private static void promise28DecisionCount() {
        PseudoBoolean x = Check.with("a + b >= 1");
        Check.equal("at first", x.decisionCount(), 0);
        x.decide(1);
        Check.equal("propagated variables do not count", x.decisionCount(), 1);
        x.decide(5);
        Check.equal("two", x.decisionCount(), 2);
        Check.post(x, "c >= 1");
        Check.yes("a conflict", x.isConflicting());
        Check.equal("a conflict keeps them", x.decisionCount(), 2);
        x.undo();
        Check.equal("one", x.decisionCount(), 1);
    }

    private static void promise29IsConflicting() {
        PseudoBoolean x = new PseudoBoolean();
        Check.no("at first", x.isConflicting());
        Check.post(x, "a + b >= 2");
        Check.no("no conflict", x.isConflicting());
        x.push();
        Check.post(x, "a + b <= 1");
        Check.yes("a conflict", x.isConflicting());
        for (int v = 0; v < 12; v++) {
            Check.equal("no value in a conflict", x.value(v), -1);
        }
        x.pop();
        Check.no("no conflict behind the level", x.isConflicting());
        Check.equal("the values are back", x.value(0), 1);
    }

    private static void promise30Value() {
        PseudoBoolean x = Check.with("3a + ~l >= 4", "b + c >= 1");
        Check.equal("a", x.value(0), 1);
        Check.equal("b", x.value(1), -1);
        Check.equal("l", x.value(11), 0);
        x.decide(3);
        Check.equal("b decided", x.value(1), 0);
        Check.equal("c follows", x.value(2), 1);
        Check.fails("value(12)", Check.INDEX, () -> x.value(12));
        Check.fails("value(-1)", Check.INDEX, () -> x.value(-1));
        PseudoBoolean y = new PseudoBoolean();
        for (int v = 0; v < 12; v++) {
            Check.equal("value at first", y.value(v), -1);
        }
    }

    /** Each constraint needs the one behind it first, so that one round from front to back is not enough. */
    private static void propagationInSteps() {
        PseudoBoolean y = new PseudoBoolean();
        for (int i = 0; i < 11; i++) {
            Check.post(y, "~" + (char) ('k' - i) + " + " + (char) ('l' - i) + " >= 1");
        }
        Check.equal("a chain of twelve", y.decide(0), 12);
        Check.equal("its end", y.value(11), 1);
        y.undo();
        Check.post(y, "~l >= 1");
        Check.equal("the chain backwards", y.value(0), 0);
        Check.equal("all have values", y.modelCount(), 1);

        // Coefficients count: a coefficient equal to the slack does not force its literal.
        PseudoBoolean z = Check.with("4a + 2b + 2c >= 4");
        Check.equal("slack 4", z.slack(0), 4);
        Check.equal("a is open", z.value(0), -1);
        Check.equal("~b forces a", z.decide(3), 2);
        Check.equal("a", z.value(0), 1);
        Check.equal("c is open", z.value(2), -1);
    }

    private static void propagationIsNotSearch() {
        PseudoBoolean x = Check.with("a + b >= 1", "a + ~b >= 1", "~a + b >= 1", "~a + ~b >= 1");
        Check.no("no conflict yet", x.isConflicting());
        Check.equal("but no model", x.firstModel(), -1);
        Check.equal("decide finds it", x.decide(0), -1);
        Check.equal("another variable", x.decide(4), 1);
    }
}
