/** Promises 22 to 25: exclusions and groups. */
final class ExclusionTest {
    public static void main(String[] args) {
        promise22Exclude();
        promise23Group();
        promise23GroupIsGreedy();
        promise24GroupLiteral();
        promise25AddGroup();
        Check.finish();
    }

    private static void promise22Exclude() {
        PseudoBoolean x = Check.with("a + b <= 1", "2c + 2~d + 2e <= 5", "3f + g + h <= 3");
        Check.yes("a and b", x.exclude(0, 2));
        Check.yes("b and a", x.exclude(2, 0));
        Check.no("~a and b", x.exclude(1, 2));
        Check.no("two of three", x.exclude(4, 7));
        Check.yes("f and g", x.exclude(10, 12));
        Check.yes("f and h", x.exclude(10, 14));
        Check.no("g and h", x.exclude(12, 14));
        for (int literal = 0; literal < 24; literal++) {
            Check.no("itself " + literal, x.exclude(literal, literal));
            Check.yes("its opposite " + literal, x.exclude(literal, literal ^ 1));
        }
        Check.fails("exclude(24, 0)", Check.INDEX, () -> x.exclude(24, 0) ? 1 : 0);
        Check.fails("exclude(0, 24)", Check.INDEX, () -> x.exclude(0, 24) ? 1 : 0);
        Check.fails("exclude(-1, 0)", Check.INDEX, () -> x.exclude(-1, 0) ? 1 : 0);
        Check.fails("exclude(0, -1)", Check.INDEX, () -> x.exclude(0, -1) ? 1 : 0);
        Check.fails("exclude(-1, -1)", Check.INDEX, () -> x.exclude(-1, -1) ? 1 : 0);
        excludeLooksAtOneConstraint();
    }

    private static void excludeLooksAtOneConstraint() {
        PseudoBoolean x = Check.with("a + b <= 1", "~b + c <= 1");
        Check.no("not by two constraints together", x.exclude(0, 4));
        x.decide(8);
        Check.post(x, "e + f + g <= 2");
        Check.no("not by a decision", x.exclude(10, 12));
        PseudoBoolean y = Check.with("~a >= 1");
        Check.yes("a literal that cannot be true excludes all", y.exclude(0, 22));
        Check.yes("in both orders", y.exclude(22, 0));
        Check.no("others are not excluded", y.exclude(2, 22));
        Check.post(y, "0a >= 1");
        Check.yes("an impossible constraint excludes all", y.exclude(2, 22));
        Check.no("but not a literal itself", y.exclude(0, 0));
        y.push();
        Check.post(y, "b + c <= 1");
        y.pop();
        PseudoBoolean z = new PseudoBoolean();
        z.push();
        Check.post(z, "b + c <= 1");
        Check.yes("within the level", z.exclude(2, 4));
        z.pop();
        Check.no("behind the level", z.exclude(2, 4));
    }

    private static void hasGroup(PseudoBoolean x, int literal, int... due) {
        Check.equal("the size of the group of " + literal, x.group(literal), due.length);
        for (int i = 0; i < due.length; i++) {
            Check.equal("literal " + i + " of the group of " + literal, x.groupLiteral(i), due[i]);
        }
        Check.fails("behind the group", Check.INDEX, () -> x.groupLiteral(due.length));
    }

    private static void promise23Group() {
        PseudoBoolean x = Check.with("b + d + ~f <= 1");
        hasGroup(x, 2, 2, 3);
        hasGroup(x, 6, 2, 6, 11);
        hasGroup(x, 11, 2, 6, 11);
        hasGroup(x, 10, 10, 11);
        hasGroup(x, 0, 0, 1);
        hasGroup(x, 23, 22, 23);
        long before = x.digest();
        x.group(4);
        Check.equal("nothing else changes", x.digest(), before);
        Check.failsLeaving(x, "group(24)", Check.INDEX, () -> x.group(24));
        Check.failsLeaving(x, "group(-1)", Check.INDEX, () -> x.group(-1));
        Check.equal("a failed call keeps the group", x.groupLiteral(1), 5);
        PseudoBoolean y = Check.with("0a >= 1");
        Check.equal("all literals", y.group(13), 24);
        PseudoBoolean z = Check.with("a+b+c+d+e+f+g+h+i+j+k+l <= 1");
        Check.equal("all variables", z.group(22), 12);
    }

    private static void promise23GroupIsGreedy() {
        // c excludes a, b and d; a excludes neither b nor d; b excludes d.
        PseudoBoolean x = Check.with("a + c <= 1", "b + c <= 1", "c + d <= 1", "b + d <= 1");
        hasGroup(x, 4, 0, 4);
        hasGroup(x, 2, 2, 3);
        hasGroup(x, 6, 2, 4, 6);
    }

    private static void promise24GroupLiteral() {
        PseudoBoolean x = new PseudoBoolean();
        Check.fails("no group yet", Check.INDEX, () -> x.groupLiteral(0));
        x.push();
        Check.post(x, "a + ~c + ~e <= 1");
        hasGroup(x, 5, 0, 5, 9);
        Check.fails("groupLiteral(-1)", Check.INDEX, () -> x.groupLiteral(-1));
        Check.fails("the greatest int", Check.INDEX, () -> x.groupLiteral(Integer.MAX_VALUE));
        x.pop();
        Check.equal("other calls keep the group", x.groupLiteral(2), 9);
        Check.fails("a failed call", Check.INDEX, () -> x.group(99));
        Check.equal("keeps it too", x.groupLiteral(1), 5);
    }

    private static void promise25AddGroup() {
        PseudoBoolean x = new PseudoBoolean();
        Check.failsLeaving(x, "no group", Check.ELEMENT, x::addGroup);
        Check.fails("a wrong group", Check.INDEX, () -> x.group(24));
        Check.fails("still no group", Check.ELEMENT, x::addGroup);
        Check.post(x, "a + ~b <= 1");
        Check.post(x, "a + c <= 1");
        Check.post(x, "~b + c <= 1");
        x.group(4);
        Check.equal("its number", x.addGroup(), 3);
        Check.equal("its text", Check.written(x, 3), "~a + b + ~c >= 2");
        Check.equal("the group stays", Check.written(x, x.addGroup()), "~a + b + ~c >= 2");
        x.group(23);
        Check.equal("opposite literals", Check.written(x, x.addGroup()), "0 >= 0");
        Check.post(x, "~a >= 1");
        // a excludes all literals now, so both literals of b are in its group.
        x.group(3);
        Check.equal("its group", x.groupLiteral(0), 0);
        Check.equal("its group", x.groupLiteral(1), 2);
        Check.equal("its group", x.groupLiteral(2), 3);
        Check.equal("both literals of b", Check.written(x, x.addGroup()), "~a >= 1");
        PseudoBoolean y = Check.with("0a >= 1");
        y.group(0);
        Check.equal("all literals", Check.written(y, y.addGroup()), "0 >= 11");
        PseudoBoolean z = new PseudoBoolean();
        for (int i = 0; i < 60; i++) {
            Check.post(z, "a >= 0");
        }
        Check.fails("no group comes before the limit", Check.ELEMENT, z::addGroup);
        z.group(0);
        Check.failsLeaving(z, "addGroup at 60", Check.STATE, z::addGroup);
    }
}
