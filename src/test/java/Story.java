/**
 * All that an object answers, as one text: two objects with the same story have the same state. The
 * telling uses the object up; it takes some 250 calls, so that the limit of 512 is kept.
 */
final class Story {
    private final PseudoBoolean x;
    private final StringBuilder told = new StringBuilder();

    private Story(PseudoBoolean x) {
        this.x = x;
    }

    static String of(PseudoBoolean x) {
        return "error " + x.errorPosition() + withoutErrorPosition(x);
    }

    static String withoutErrorPosition(PseudoBoolean x) {
        Story story = new Story(x);
        story.tellWhatIsKept();
        story.tellValues();
        story.tellModels();
        story.tellWayBack();
        story.tellBuffer();
        return story.told.toString();
    }

    private void tell(String what, Check.Call call) {
        told.append(' ').append(what).append(' ');
        try {
            told.append(call.answer());
        } catch (RuntimeException e) {
            told.append(e.getClass().getName());
        }
    }

    private interface Indexed {
        long answer(int index);
    }

    /** All answers from index 0 to the first exception. */
    private void tellAll(String what, Indexed indexed) {
        told.append(' ').append(what);
        try {
            for (int i = 0; i < 200; i++) {
                told.append(' ').append(indexed.answer(i));
            }
        } catch (IndexOutOfBoundsException e) {
            told.append('.');
        }
    }

    private void tellWhatIsKept() {
        tellAll("output", x::outputByte);
        tellAll("group", x::groupLiteral);
        tellAll("reason", x::reasonLiteral);
    }

    private void tellValues() {
        tell("constraints", x::constraintCount);
        tell("decisions", x::decisionCount);
        tell("conflict", () -> x.isConflicting() ? 1 : 0);
        tell("digest", x::digest);
        tellAll("values", x::value);
        tellAll("slacks", i -> x.slack(i));
    }

    private void tellModels() {
        tell("models", x::modelCount);
        tell("first", x::firstModel);
        tell("cheapest", x::cheapestModel);
        tell("cost", x::leastCost);
        tellAll("forced", literal -> x.isForced(literal) ? 1 : 0);
    }

    /** What undo and pop restore; levels and decisions are few in the scenes. */
    private void tellWayBack() {
        for (int level = 0; level <= 8; level++) {
            for (int decision = x.decisionCount(); decision > 0; decision--) {
                tell("undo", x::undo);
                tell("digest", x::digest);
            }
            tell("undo", x::undo);
            tell("pop", x::pop);
            tell("digest", x::digest);
        }
    }

    /** The text, as it is read behind the way back: there is room for its constraint then. */
    private void tellBuffer() {
        int blanks = 0x20202020;
        tell("feed", () -> x.feed(blanks, blanks, blanks, blanks, blanks));
        tell("post", x::post);
        tell("error", x::errorPosition);
        tell("digest", x::digest);
    }
}
