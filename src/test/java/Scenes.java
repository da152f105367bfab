/** Objects with something in every part of their state, so that whatever a call changes is seen. */
final class Scenes {
    private Scenes() {}

    /**
     * Four constraints, one of them in a level, a decision below and one in the level, two costs, an
     * output, a group, a reason, an error position of 3, and a text of 10 bytes in the buffer.
     */
    static PseudoBoolean busy() {
        PseudoBoolean x = Check.with("2a + b + 3~c >= 3", "~a + ~b + d >= 1", "k + l <= 1");
        x.setCost(0, 5);
        x.setCost(11, -7);
        x.decide(6);
        x.push();
        Check.post(x, "e + f + g >= 2");
        x.decide(9);
        x.group(22);
        x.explain(3072, 0);
        x.write(2);
        return withText(withError(x), "h + i >= 1");
    }

    /** The busy object with more constraints. */
    static PseudoBoolean filled(int constraints) {
        PseudoBoolean x = busy();
        while (x.constraintCount() < constraints) {
            x.multiple(0, 1);
        }
        return x;
    }

    static PseudoBoolean full() {
        return filled(60);
    }

    /** Numbers 6 and 7 are 999999000a >= 0 and 999999000~a >= 0, number 8 is ~a + 2b >= 0. */
    static PseudoBoolean greatNumbers() {
        PseudoBoolean x = busy();
        x.trim(0);
        Check.post(x, "999999a >= 0");
        Check.post(x, "999999~a >= 0");
        x.multiple(4, 1000);
        x.multiple(5, 1000);
        Check.post(x, "~a + 2b >= 0");
        return withText(withError(x), "h + i >= 1");
    }

    static PseudoBoolean fullOfGreatNumbers() {
        PseudoBoolean x = greatNumbers();
        while (x.constraintCount() < 60) {
            x.multiple(0, 1);
        }
        return x;
    }

    static PseudoBoolean conflicting() {
        PseudoBoolean x = busy();
        x.trim(0);
        Check.post(x, "f <= 0");
        return withText(withError(x), "h + i >= 1");
    }

    /** No model at all, neither with the decisions nor without them. */
    static PseudoBoolean withoutModels() {
        PseudoBoolean x = busy();
        x.trim(0);
        Check.post(x, "0a >= 1");
        return withText(withError(x), "h + i >= 1");
    }

    static PseudoBoolean withEightLevels() {
        PseudoBoolean x = busy();
        while (x.push() < 8) {
            x.multiple(0, 2);
        }
        return x;
    }

    /** The busy object with another text in its buffer. */
    static PseudoBoolean busyWith(String text) {
        return withText(busy(), text);
    }

    static PseudoBoolean filledWith(int constraints, String text) {
        return withText(filled(constraints), text);
    }

    static PseudoBoolean withText(PseudoBoolean x, String text) {
        Check.put(x, text);
        return x;
    }

    private static PseudoBoolean withError(PseudoBoolean x) {
        Check.put(x, "a +");
        Check.fails("post of a +", Check.ARGUMENT, x::post);
        return x;
    }
}
