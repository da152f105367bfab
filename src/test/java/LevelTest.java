/** Promises 1 and 40 to 42: a new object, levels and the checksum. */
final class LevelTest {
    public static void main(String[] args) {
        promise1NewObject();
        promise40Push();
        promise41Pop();
        promise41PopRestores();
        promise42Digest();
        Check.finish();
    }

    private static void promise1NewObject() {
        PseudoBoolean x = new PseudoBoolean();
        Check.equal("constraints", x.constraintCount(), 0);
        Check.equal("decisions", x.decisionCount(), 0);
        Check.no("conflict", x.isConflicting());
        Check.equal("models", x.modelCount(), 4096);
        Check.equal("error", x.errorPosition(), -1);
        Check.equal("cost", x.leastCost(), 0);
        Check.fails("trim(1)", Check.ARGUMENT, () -> x.trim(1));
        Check.fails("outputByte(0)", Check.INDEX, () -> x.outputByte(0));
        Check.fails("groupLiteral(0)", Check.INDEX, () -> x.groupLiteral(0));
        Check.fails("reasonLiteral(0)", Check.INDEX, () -> x.reasonLiteral(0));
        Check.fails("addGroup", Check.ELEMENT, x::addGroup);
        Check.fails("undo", Check.STATE, x::undo);
        Check.fails("pop", Check.STATE, x::pop);
        Check.fails("degree(0)", Check.INDEX, () -> x.degree(0));
        Check.equal("the buffer", x.feed(0, 0, 0, 0, 0), 20);

        // Two objects share nothing.
        PseudoBoolean y = Check.with("a >= 1");
        y.setCost(0, 5);
        y.push();
        PseudoBoolean z = new PseudoBoolean();
        Check.equal("another new object", z.digest(), due(0, 0, 0, noValues()));
    }

    private static void promise40Push() {
        PseudoBoolean x = new PseudoBoolean();
        for (int i = 1; i <= 8; i++) {
            Check.equal("push " + i, x.push(), i);
        }
        Check.failsLeaving(x, "push 9", Check.STATE, x::push);
        Check.equal("pop behind it", x.pop(), 7);
        Check.equal("push again", x.push(), 8);
        for (int i = 7; i >= 0; i--) {
            Check.equal("pop", x.pop(), i);
        }
    }

    private static void promise41Pop() {
        PseudoBoolean x = Check.with("a + b >= 1");
        Check.failsLeaving(x, "pop without a level", Check.STATE, x::pop);
        long before = x.digest();
        for (int level = 0; level < 8; level++) {
            x.push();
            Check.post(x, (char) ('c' + level) + " >= 1");
        }
        Check.equal("with all levels", x.modelCount(), 12);
        for (int level = 7; level >= 0; level--) {
            Check.equal("pop", x.pop(), level);
            Check.equal("the constraints", x.constraintCount(), level + 1);
            Check.equal("the models", x.modelCount(), 3 << (10 - level));
            Check.equal("its variable", x.value(2 + level), -1);
        }
        Check.equal("all is as before", x.digest(), before);
        Check.failsLeaving(x, "pop of one more", Check.STATE, x::pop);
        Check.equal("the next number", Check.post(x, "a >= 1"), 1);
    }

    private static void promise41PopRestores() {
        PseudoBoolean x = Check.with("a + b >= 1");
        x.decide(1);
        x.decide(10);
        x.push();
        x.undo();
        x.undo();
        x.decide(0);
        Check.post(x, "f <= 0");
        Check.post(x, "a <= 0");
        Check.yes("a conflict", x.isConflicting());
        x.pop();
        Check.no("no conflict", x.isConflicting());
        Check.equal("two decisions", x.decisionCount(), 2);
        Check.equal("a is false", x.value(0), 0);
        Check.equal("b follows", x.value(1), 1);
        Check.equal("f is true", x.value(5), 1);
        Check.equal("undo takes f back", x.undo(), 1);
        Check.equal("f is open", x.value(5), -1);
        Check.equal("a is false still", x.value(0), 0);

        // Two levels with decisions of their own; the inner one is closed and opened again.
        PseudoBoolean y = new PseudoBoolean();
        y.push();
        y.decide(4);
        y.push();
        y.decide(6);
        y.pop();
        Check.equal("c is left", y.decisionCount(), 1);
        y.decide(8);
        y.push();
        y.undo();
        y.pop();
        Check.equal("c and e are left", y.decisionCount(), 2);
        Check.equal("e", y.value(4), 1);
        Check.equal("d", y.value(3), -1);
        y.pop();
        Check.equal("none is left", y.decisionCount(), 0);
        popKeepsTheRest();
    }

    private static void popKeepsTheRest() {
        PseudoBoolean x = Check.with("a + b <= 1");
        x.push();
        x.setCost(3, 9);
        x.group(0);
        x.write(0);
        Check.put(x, "a +");
        Check.fails("post", Check.ARGUMENT, x::post);
        x.feed(0, 0, 0, 0, 0);
        x.pop();
        Check.equal("the cost", x.setCost(3, 0), 9);
        Check.equal("the group", x.groupLiteral(0), 0);
        Check.equal("the output", x.outputByte(0), '~');
        Check.equal("the error", x.errorPosition(), 3);
        Check.equal("the buffer", x.trim(20), 20);
    }

    private static long[] noValues() {
        long[] values = new long[24];
        for (int v = 0; v < 12; v++) {
            values[2 * v] = -1;
        }
        return values;
    }

    private static long due(long constraints, long decisions, long levels, long... rest) {
        long d = ((41L * 31 + constraints) * 31 + decisions) * 31 + levels;
        for (long x : rest) {
            d = d * 31 + x;
        }
        return d;
    }

    private static void promise42Digest() {
        PseudoBoolean x = new PseudoBoolean();
        Check.equal("of a new object", x.digest(), due(0, 0, 0, noValues()));
        x.push();
        x.push();
        Check.equal("of levels", x.digest(), due(0, 0, 2, noValues()));
        Check.post(x, "2a + 3~c + k >= 4");
        x.setCost(1, -7);
        x.decide(23);
        long[] numbers = {
            4, 0, 2, 5, 3, 20, 1,
            -1, 0, -1, -7, 0, 0, -1, 0, -1, 0, -1, 0, -1, 0, -1, 0, -1, 0, -1, 0, -1, 0, 0, 0
        };
        Check.equal("of all", x.digest(), due(1, 1, 2, numbers));
        Check.equal("it changes nothing", x.digest(), due(1, 1, 2, numbers));
        Check.post(x, "0a >= 3");
        long[] inConflict = new long[32];
        System.arraycopy(numbers, 0, inConflict, 0, 7);
        inConflict[7] = 3;
        System.arraycopy(noValues(), 0, inConflict, 8, 24);
        inConflict[11] = -7;
        Check.equal("in a conflict", x.digest(), due(2, 1, 2, inConflict));
    }
}
