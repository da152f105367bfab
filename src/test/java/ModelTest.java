/** Promises 31 to 39: models, costs and reasons. */
final class ModelTest {
    public static void main(String[] args) {
        promise31FirstModel();
        promise32NextModel();
        promise33ModelCount();
        promise34IsForced();
        promise35SetCost();
        promise36LeastCost();
        promise37CheapestModel();
        promise38Explain();
        promise38ExplainWithDecisions();
        promise38ExplainRemovesInOrder();
        promise39ReasonLiteral();
        Check.finish();
    }

    private static void promise31FirstModel() {
        PseudoBoolean x = new PseudoBoolean();
        Check.equal("without constraints", x.firstModel(), 0);
        Check.post(x, "a + b >= 1");
        Check.equal("a", x.firstModel(), 1);
        x.decide(1);
        Check.equal("without a", x.firstModel(), 2);
        x.decide(22);
        Check.equal("with l", x.firstModel(), 2050);
        Check.post(x, "a+b+c+d+e+f+g+h+i+j+k+l >= 11");
        Check.equal("all but a", x.firstModel(), 4094);
        Check.post(x, "g <= 0");
        Check.equal("none", x.firstModel(), -1);
        PseudoBoolean y = Check.with("a+b+c+d+e+f+g+h+i+j+k+l >= 12");
        Check.equal("all", y.firstModel(), 4095);
        for (int v = 0; v < 12; v++) {
            PseudoBoolean z = new PseudoBoolean();
            z.decide(2 * v);
            Check.equal("decided " + v, z.firstModel(), 1 << v);
        }
    }

    private static void promise32NextModel() {
        PseudoBoolean x = Check.with("a + g = 1");
        Check.equal("behind 0", x.nextModel(0), 1);
        Check.equal("behind 1", x.nextModel(1), 3);
        Check.equal("behind 62", x.nextModel(62), 63);
        Check.equal("behind 63", x.nextModel(63), 64);
        Check.equal("behind 64", x.nextModel(64), 66);
        Check.equal("behind 126", x.nextModel(126), 129);
        Check.equal("behind 4094", x.nextModel(4094), -1);
        Check.equal("behind 4095", x.nextModel(4095), -1);
        x.decide(22);
        Check.equal("with l", x.nextModel(0), 2049);
        Check.equal("with l, behind its first", x.nextModel(2049), 2051);
        Check.fails("nextModel(-1)", Check.ARGUMENT, () -> x.nextModel(-1));
        Check.fails("nextModel(4096)", Check.ARGUMENT, () -> x.nextModel(4096));
        Check.fails("the greatest int", Check.ARGUMENT, () -> x.nextModel(Integer.MAX_VALUE));
        PseudoBoolean y = new PseudoBoolean();
        for (int mask = 0; mask < 130; mask++) {
            Check.equal("behind " + mask, y.nextModel(mask), mask + 1);
        }
        Check.equal("the last", y.nextModel(4094), 4095);
        Check.equal("none behind the last", y.nextModel(4095), -1);
        PseudoBoolean z = Check.with("0a >= 1");
        Check.equal("without models", z.nextModel(0), -1);
    }

    private static void promise33ModelCount() {
        PseudoBoolean x = new PseudoBoolean();
        Check.equal("without constraints", x.modelCount(), 4096);
        Check.post(x, "a+b+c+d+e+f+g+h+i+j+k+l = 6");
        Check.equal("six of twelve", x.modelCount(), 924);
        x.decide(0);
        Check.equal("with a", x.modelCount(), 462);
        x.decide(23);
        Check.equal("without l", x.modelCount(), 252);
        x.undo();
        x.undo();
        Check.equal("without decisions", x.modelCount(), 924);
        Check.post(x, "a + l >= 3");
        Check.equal("none", x.modelCount(), 0);
        for (int literal = 0; literal < 24; literal++) {
            PseudoBoolean y = new PseudoBoolean();
            y.decide(literal);
            Check.equal("half of all", y.modelCount(), 2048);
        }
    }

    private static void promise34IsForced() {
        PseudoBoolean x = Check.with("a + b >= 1", "a + ~b >= 1", "c + l >= 1");
        Check.yes("a, though it has no value", x.isForced(0));
        Check.equal("its value", x.value(0), -1);
        Check.no("~a", x.isForced(1));
        Check.no("b", x.isForced(2));
        Check.no("~b", x.isForced(3));
        Check.no("l", x.isForced(22));
        x.decide(5);
        Check.yes("l without c", x.isForced(22));
        Check.no("not ~l", x.isForced(23));
        Check.yes("the decided literal", x.isForced(5));
        Check.no("its opposite", x.isForced(4));
        Check.post(x, "a <= 0");
        for (int literal = 0; literal < 24; literal++) {
            Check.yes("without models " + literal, x.isForced(literal));
        }
        PseudoBoolean y = Check.with("a <= 0", "l >= 1");
        for (int literal = 2; literal < 22; literal++) {
            Check.no("an open literal " + literal, y.isForced(literal));
        }
        PseudoBoolean z = Check.with("a+b+c+d+e+f+g+h+i+j+k+l <= 0");
        Check.no("a where all are false", z.isForced(0));
        Check.yes("~a where all are false", z.isForced(1));
        Check.fails("isForced(24)", Check.INDEX, () -> x.isForced(24) ? 1 : 0);
        Check.fails("isForced(-1)", Check.INDEX, () -> x.isForced(-1) ? 1 : 0);
    }

    private static void promise35SetCost() {
        PseudoBoolean x = new PseudoBoolean();
        for (int v = 0; v < 12; v++) {
            Check.equal("the cost at first", x.setCost(v, v + 1), 0);
        }
        Check.equal("the cost before", x.setCost(11, -1000), 12);
        Check.equal("the least", x.setCost(11, 1000), -1000);
        Check.failsLeaving(x, "1001", Check.ARGUMENT, () -> x.setCost(11, 1001));
        Check.failsLeaving(x, "-1001", Check.ARGUMENT, () -> x.setCost(11, -1001));
        Check.failsLeaving(x, "the least int", Check.ARGUMENT, () -> x.setCost(0, Integer.MIN_VALUE));
        Check.equal("the greatest is kept", x.setCost(11, 0), 1000);
        Check.fails("variable 12", Check.INDEX, () -> x.setCost(12, 0));
        Check.fails("variable -1", Check.INDEX, () -> x.setCost(-1, 0));
        Check.fails("the variable comes first", Check.INDEX, () -> x.setCost(12, 1001));
        x.push();
        x.setCost(0, 77);
        x.pop();
        Check.equal("levels keep costs", x.setCost(0, 0), 77);
    }

    private static void promise36LeastCost() {
        PseudoBoolean x = Check.with("a + b + c >= 2");
        Check.equal("without costs", x.leastCost(), 0);
        x.setCost(0, 5);
        x.setCost(1, 3);
        x.setCost(2, 4);
        Check.equal("the cheapest two", x.leastCost(), 7);
        x.setCost(11, -2);
        Check.equal("a negative cost", x.leastCost(), 5);
        x.decide(0);
        Check.equal("with a", x.leastCost(), 6);
        x.decide(23);
        Check.equal("without l", x.leastCost(), 8);
        Check.post(x, "a <= 0");
        Check.failsLeaving(x, "no model", Check.ELEMENT, x::leastCost);
        Check.equal("negated literals cost nothing", Check.with("~a + ~l >= 1").leastCost(), 0);
        PseudoBoolean y = new PseudoBoolean();
        PseudoBoolean z = Check.with("a+b+c+d+e+f+g+h+i+j+k+l >= 12");
        for (int v = 0; v < 12; v++) {
            y.setCost(v, -1000);
            z.setCost(v, 1000);
        }
        Check.equal("the least of all", y.leastCost(), -12000);
        Check.equal("the greatest of all", z.leastCost(), 12000);
    }

    private static void promise37CheapestModel() {
        PseudoBoolean x = Check.with("a + b + c >= 2");
        Check.equal("without costs", x.cheapestModel(), 3);
        x.setCost(0, 5);
        x.setCost(1, 3);
        x.setCost(2, 4);
        Check.equal("the cheapest two", x.cheapestModel(), 6);
        x.setCost(2, 5);
        Check.equal("the least of two", x.cheapestModel(), 3);
        x.setCost(7, -1);
        Check.equal("with h", x.cheapestModel(), 131);
        x.decide(15);
        Check.equal("h decided", x.cheapestModel(), 3);
        x.decide(4);
        Check.equal("with c", x.cheapestModel(), 6);
        PseudoBoolean y = new PseudoBoolean();
        y.setCost(0, 1);
        y.setCost(8, 1);
        Check.equal("none is the cheapest", y.cheapestModel(), 0);
        PseudoBoolean z = new PseudoBoolean();
        z.setCost(11, -1000);
        z.setCost(10, 1000);
        Check.equal("l alone", z.cheapestModel(), 2048);
        Check.post(z, "0a >= 1");
        Check.failsLeaving(z, "no model", Check.ELEMENT, z::cheapestModel);
    }

    private static void hasReason(PseudoBoolean x, int yes, int no, int... due) {
        String call = "explain(" + yes + ", " + no + ")";
        Check.equal(call, x.explain(yes, no), due.length);
        for (int i = 0; i < due.length; i++) {
            Check.equal("literal " + i + " of " + call, x.reasonLiteral(i), due[i]);
        }
        Check.fails("behind " + call, Check.INDEX, () -> x.reasonLiteral(due.length));
    }

    private static void promise38Explain() {
        PseudoBoolean x = Check.with("a + b + c >= 2", "k + l <= 1");
        hasReason(x, 0, 7, 3, 5);
        hasReason(x, 0, 3, 1, 3);
        hasReason(x, 3072, 0, 20, 22);
        hasReason(x, 3072 + 8, 4, 20, 22);
        hasReason(x, 4095, 0, 20, 22);
        hasReason(x, 0, 4095, 3, 5);
        hasReason(x, 3074, 5, 20, 22);
        Check.failsLeaving(x, "a model is there", Check.ELEMENT, () -> x.explain(3, 4));
        Check.failsLeaving(x, "no literals", Check.ELEMENT, () -> x.explain(0, 0));
        Check.failsLeaving(x, "yes -1", Check.ARGUMENT, () -> x.explain(-1, 0));
        Check.failsLeaving(x, "no -1", Check.ARGUMENT, () -> x.explain(0, -1));
        Check.failsLeaving(x, "yes 4096", Check.ARGUMENT, () -> x.explain(4096, 7));
        Check.failsLeaving(x, "no 4096", Check.ARGUMENT, () -> x.explain(0, 4096));
        Check.failsLeaving(x, "a common variable", Check.ARGUMENT, () -> x.explain(1, 7));
        Check.equal("a failed call keeps the reason", x.reasonLiteral(1), 22);
        long before = x.digest();
        x.explain(0, 7);
        Check.equal("nothing else changes", x.digest(), before);
        Check.post(x, "0a >= 1");
        hasReason(x, 4095, 0);
        hasReason(x, 0, 0);
    }

    private static void promise38ExplainWithDecisions() {
        PseudoBoolean x = Check.with("a + b + c >= 2");
        x.decide(1);
        hasReason(x, 0, 6, 5);
        hasReason(x, 1, 0, 0);
        hasReason(x, 1, 6, 5);
        Check.fails("with a decided literal", Check.ELEMENT, () -> x.explain(0, 1));
        PseudoBoolean z = Check.with("a+b+c+d+e+f+g+h+i+j+k+l <= 0");
        Check.fails("the model without any", Check.ELEMENT, () -> z.explain(0, 1));
        PseudoBoolean y = Check.with("a + b >= 1");
        y.decide(0);
        y.decide(2);
        Check.post(y, "a + b <= 1");
        Check.yes("a conflict", y.isConflicting());
        hasReason(y, 2048, 1024);
    }

    /** Of several reasons, the one that is left when the earlier literals are removed first. */
    private static void promise38ExplainRemovesInOrder() {
        PseudoBoolean x = Check.with("~a + ~b >= 1", "c + d >= 1");
        hasReason(x, 3, 12, 5, 7);
        PseudoBoolean y = Check.with("~a + ~l >= 1", "~b + ~c + d >= 1");
        hasReason(y, 1 + 2 + 4 + 2048, 8, 2, 4, 7);
        hasReason(y, 1 + 2 + 2048, 8, 0, 22);
    }

    private static void promise39ReasonLiteral() {
        PseudoBoolean x = Check.with("a + ~f + l >= 1");
        Check.fails("no reason yet", Check.INDEX, () -> x.reasonLiteral(0));
        Check.fails("a model is there", Check.ELEMENT, () -> x.explain(32, 1));
        Check.fails("still no reason", Check.INDEX, () -> x.reasonLiteral(0));
        x.push();
        hasReason(x, 32, 2049, 1, 10, 23);
        x.decide(1);
        x.pop();
        Check.equal("other calls keep the reason", x.reasonLiteral(2), 23);
        Check.fails("reasonLiteral(-1)", Check.INDEX, () -> x.reasonLiteral(-1));
        Check.fails("the greatest int", Check.INDEX, () -> x.reasonLiteral(Integer.MAX_VALUE));
    }
}
