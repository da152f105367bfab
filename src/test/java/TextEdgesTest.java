/** The edges of promises 2 to 8 and of the document's sections on texts and on the normal form. */
final class TextEdgesTest {
    public static void main(String[] args) {
        Check.runPromises(TextEdgesTest.class);
    }

    private static PseudoBoolean withBytes(int length) {
        PseudoBoolean x = new PseudoBoolean();
        Check.put(x, Check.repeated(" ", length));
        return x;
    }

    private static int feedBlanks(PseudoBoolean x) {
        int blanks = 0x20202020;
        return x.feed(blanks, blanks, blanks, blanks, blanks);
    }

    // ---- feed

    static void promise02FeedIntoTheEmptyBuffer() {
        Check.equal("feed at 0", feedBlanks(new PseudoBoolean()), 20);
    }

    static void promise02FeedIntoOneByte() {
        Check.equal("feed at 1", feedBlanks(withBytes(1)), 21);
    }

    static void promise02FeedTakesTheTwoHundredthByte() {
        Check.equal("feed at 179", feedBlanks(withBytes(179)), 199);
        Check.equal("feed at 180", feedBlanks(withBytes(180)), 200);
    }

    static void promise02FeedRefusesTheTwoHundredAndFirstByte() {
        PseudoBoolean x = withBytes(181);
        Check.fails("feed at 181", Check.STATE, () -> feedBlanks(x));
    }

    static void promise02FeedRefusesMoreInTheFullBuffer() {
        PseudoBoolean x = withBytes(200);
        Check.fails("feed at 200", Check.STATE, () -> feedBlanks(x));
    }

    static void promise02FeedIsTakenAgainWhereItWasRefused() {
        PseudoBoolean x = withBytes(181);
        Check.fails("feed at 181", Check.STATE, () -> feedBlanks(x));
        Check.equal("trim", x.trim(180), 180);
        Check.equal("feed at 180", feedBlanks(x), 200);
    }

    static void promise02FeedRefusedKeepsTheText() {
        PseudoBoolean x = new PseudoBoolean();
        Check.put(x, "5a >= 3" + Check.repeated(" ", 174));
        Check.fails("feed at 181", Check.STATE, () -> x.feed(0x3F3F3F3F, 0, 0, 0, 0));
        Check.equal("post", x.post(), 0);
        Check.equal("its text", Check.written(x, 0), "5a >= 3");
    }

    /** A question mark in the place of each of the twenty bytes is the error at this place. */
    static void promise02FeedPutsEachByteInItsPlace() {
        String text = "a+b+c+d+e+f+g+h+i+j+";
        for (int i = 0; i < 20; i++) {
            Check.refuses(text.substring(0, i) + "?" + text.substring(i + 1), i);
        }
    }

    static void promise02FeedOfNegativeNumbers() {
        // -1 is four bytes of 255, the least int is the byte 128 and three of 0.
        PseudoBoolean x = new PseudoBoolean();
        Check.equal("feed", x.feed(-1, -1, -1, -1, -1), 20);
        Check.fails("post", Check.ARGUMENT, x::post);
        Check.equal("error", x.errorPosition(), 0);
        x.feed(0x61203E3D, 0x20310000 | 0x2020, Integer.MIN_VALUE, 0, 0);
        Check.fails("post", Check.ARGUMENT, x::post);
        Check.equal("error at the byte 128", x.errorPosition(), 8);
    }

    static void promise02FeedKeepsTheHighestBitOfAByte() {
        // A letter, a digit and a blank with 128 more are none.
        Check.refuses("\u00e1 >= 1", 0);
        Check.refuses("a >= \u00b1", 5);
        Check.refuses("a >=\u00a01", 4);
    }

    static void promise02FeedOfTheByte0() {
        Check.refuses("a >= 1\u0000", 6);
    }

    // ---- trim

    static void promise03TrimOfTheEmptyBuffer() {
        PseudoBoolean x = new PseudoBoolean();
        Check.equal("trim(0) of 0", x.trim(0), 0);
        Check.fails("trim(1) of 0", Check.ARGUMENT, () -> x.trim(1));
        Check.fails("trim(-1) of 0", Check.ARGUMENT, () -> x.trim(-1));
    }

    static void promise03TrimToTheWholeLength() {
        Check.equal("trim(20) of 20", withBytes(20).trim(20), 20);
        Check.equal("trim(200) of 200", withBytes(200).trim(200), 200);
    }

    static void promise03TrimToOneByteLess() {
        Check.equal("trim(19) of 20", withBytes(20).trim(19), 19);
        Check.equal("trim(199) of 200", withBytes(200).trim(199), 199);
    }

    static void promise03TrimRefusesOneByteMore() {
        PseudoBoolean x = withBytes(20);
        Check.fails("trim(21) of 20", Check.ARGUMENT, () -> x.trim(21));
        PseudoBoolean y = withBytes(200);
        Check.fails("trim(201) of 200", Check.ARGUMENT, () -> y.trim(201));
    }

    static void promise03TrimToNothing() {
        PseudoBoolean x = withBytes(200);
        Check.equal("trim(0) of 200", x.trim(0), 0);
        Check.equal("feed behind it", feedBlanks(x), 20);
    }

    static void promise03TrimRefusesNegativeLengths() {
        PseudoBoolean x = withBytes(20);
        Check.fails("trim(-1) of 20", Check.ARGUMENT, () -> x.trim(-1));
        Check.fails("trim of the least", Check.ARGUMENT, () -> x.trim(Integer.MIN_VALUE));
    }

    static void promise03TrimCutsTheLastBytes() {
        PseudoBoolean x = new PseudoBoolean();
        Check.put(x, "a >= 12");
        x.trim(6);
        x.post();
        Check.equal("without the last digit", Check.written(x, 0), "a >= 1");
        // The bytes that were cut do not come back.
        Check.put(x, "a >= 12");
        x.trim(6);
        feedBlanks(x);
        x.post();
        Check.equal("with blanks behind it", Check.written(x, 1), "a >= 1");
    }

    // ---- post: the limit of 60

    static PseudoBoolean withConstraints(int count) {
        PseudoBoolean x = Check.with("b >= 0");
        while (x.constraintCount() < count) {
            x.multiple(0, 1);
        }
        return x;
    }

    static void promise04PostOfTheSixtieth() {
        Check.equal("one at 59", Check.post(withConstraints(59), "a >= 1"), 59);
    }

    static void promise04PostOfTwoUpToTheSixtieth() {
        PseudoBoolean x = withConstraints(58);
        Check.equal("two at 58", Check.post(x, "a = 1"), 58);
        Check.equal("60", x.constraintCount(), 60);
        Check.equal("the last", Check.written(x, 59), "~a >= 0");
    }

    static void promise04PostRefusesTwoWithRoomForOne() {
        PseudoBoolean x = withConstraints(59);
        Check.put(x, "a = 1");
        Check.failsLeaving(x, "two at 59", Check.STATE, x::post);
        Check.equal("59", x.constraintCount(), 59);
        Check.equal("a has no value", x.value(0), -1);
        Check.hasEmptyBuffer("the refusal", x);
    }

    static void promise04PostRefusesTheSixtyFirst() {
        PseudoBoolean x = withConstraints(60);
        Check.put(x, "a >= 1");
        Check.failsLeaving(x, "one at 60", Check.STATE, x::post);
        Check.hasEmptyBuffer("the refusal", x);
        Check.put(x, "a <= 1");
        Check.failsLeaving(x, "another one at 60", Check.STATE, x::post);
        Check.put(x, "a = 1");
        Check.failsLeaving(x, "two at 60", Check.STATE, x::post);
    }

    static void promise04PostFindsRoomBehindAPop() {
        PseudoBoolean x = withConstraints(59);
        x.push();
        Check.equal("one at 59", Check.post(x, "a >= 1"), 59);
        x.pop();
        Check.equal("another one at 59", Check.post(x, "c >= 1"), 59);
        Check.equal("its text", Check.written(x, 59), "c >= 1");
    }

    static void promise04PostEmptiesTheBufferInAnyCase() {
        PseudoBoolean x = withConstraints(59);
        Check.put(x, "a >= ");
        Check.fails("an error", Check.ARGUMENT, x::post);
        Check.hasEmptyBuffer("an error", x);
        Check.put(x, "a = 1");
        Check.fails("no room", Check.STATE, x::post);
        Check.hasEmptyBuffer("no room", x);
        Check.post(x, "a >= 1");
        Check.hasEmptyBuffer("a new constraint", x);
    }

    // ---- post: numbers, terms and the length of the text

    static void promise04PostTakesSixDigits() {
        Check.posts("999999a >= 999999", "999999a >= 999999");
        Check.posts("100000a >= -100000", "100000a >= 0");
        Check.posts("a <= 999999", "~a >= 0");
        Check.posts("a <= -999999", "~a >= 1000000");
    }

    static void promise04PostRefusesSevenDigits() {
        Check.refuses("1000000a >= 1", 0);
        Check.refuses("-1000000a >= 1", 1);
        Check.refuses("a + 1000000a >= 1", 4);
        Check.refuses("a >= 1000000", 5);
        Check.refuses("a >= -1000000", 6);
        Check.refuses("a = 9999999", 4);
    }

    static void promise04PostCountsLeadingZerosAsDigits() {
        Check.posts("000001a >= 000000", "a >= 0");
        Check.refuses("0000001a >= 1", 0);
        Check.refuses("a >= 0000000", 5);
    }

    static void promise04PostOfTheNumber0() {
        Check.posts("0a >= 0", "0 >= 0");
        Check.posts("0a + 0~a - 0b >= 1", "0 >= 1");
        Check.posts("a >= -0", "a >= 0");
        Check.posts("a <= 0", "~a >= 1");
    }

    static void promise04PostOfTheFirstAndTheLastLetter() {
        Check.posts("a + l >= 1", "a + l >= 1");
        Check.posts("~a + ~l >= 1", "~a + ~l >= 1");
        Check.refuses("m >= 1", 0);
        Check.refuses("` >= 1", 0);
        Check.refuses("A >= 1", 0);
    }

    static void promise04PostOfTheShortestText() {
        Check.posts("a=1", "a >= 1", "~a >= 0");
        Check.posts("a=0", "a >= 0", "~a >= 1");
        Check.refuses("a=", 2);
        Check.refuses("a1", 1);
    }

    static void promise04PostOfTwoHundredBytes() {
        Check.posts(Check.repeated("a+", 98) + "b=1", "98a + b >= 1", "98~a + ~b >= 98");
        Check.posts(Check.repeated(" ", 197) + "a=1", "a >= 1", "~a >= 0");
        Check.posts("a=1" + Check.repeated(" ", 197), "a >= 1", "~a >= 0");
        Check.posts("a" + Check.repeated(" ", 197) + "=1", "a >= 1", "~a >= 0");
    }

    static void promise04PostOfTheGreatestNumbersOfAText() {
        // 24 terms of eight bytes, and the relation.
        Check.posts(Check.repeated("999999a+", 24) + "9a>=9", "23999985a >= 9");
        Check.posts(Check.repeated("-999999a", 24) + "<=-99", "23999976a >= 99");
        Check.posts(Check.repeated("-999999a", 24) + ">=999", "23999976~a >= 24000975");
    }

    static void promise04PostOfManyBlanks() {
        Check.posts("   2   ~   a   +   b   >=   1   ", "2~a + b >= 1");
    }

    static void promise04PostWithoutBlanks() {
        Check.posts("-2~a-b<=-1", "2~a + b >= 1");
    }

    // ---- post: the normal form

    static void promise04NormalFormOfEqualCoefficients() {
        Check.posts("3a + 3~a >= 3", "0 >= 0");
        Check.posts("3a + 3~a >= 4", "0 >= 1");
        Check.posts("3a + 3~a >= 2", "0 >= 0");
    }

    static void promise04NormalFormOfDifferentCoefficients() {
        Check.posts("4a + 3~a >= 4", "a >= 1");
        Check.posts("3a + 4~a >= 4", "~a >= 1");
    }

    static void promise04NormalFormOfCoefficientsThatVanish() {
        Check.posts("2a - 2a >= 1", "0 >= 1");
        Check.posts("2a - 3a >= 0", "~a >= 1");
        Check.posts("3a - 2a >= 0", "a >= 0");
        Check.posts("a + 0b >= 1", "a >= 1");
    }

    static void promise04NormalFormOfDegreesAround0() {
        Check.posts("a >= 1", "a >= 1");
        Check.posts("a >= 0", "a >= 0");
        Check.posts("a >= -1", "a >= 0");
        Check.posts("-2a >= -1", "2~a >= 1");
        Check.posts("-2a >= -2", "2~a >= 0");
        Check.posts("-2a >= -3", "2~a >= 0");
    }

    /** The degree becomes 0 at the end only: on the way it may be negative and grow again. */
    static void promise04NormalFormOfADegreeThatIsNegativeOnTheWay() {
        Check.posts("a - 3b >= -2", "a + 3~b >= 1");
        Check.posts("-3b + a + 2c >= -1", "a + 3~b + 2c >= 2");
        Check.posts("2a + 2~a - 5b >= -2", "5~b >= 1");
    }

    static void promise04NormalFormOfBothPartsOfAnEquation() {
        Check.posts("2a - b = 0", "2a + ~b >= 1", "2~a + b >= 2");
        Check.posts("a = -1", "a >= 0", "~a >= 2");
        Check.posts("0a = 0", "0 >= 0", "0 >= 0");
    }

    static void promise04NormalFormOfTermsInAnyOrder() {
        Check.posts(
                "l+k+j+i+h+g+f+e+d+c+b+a >= 1", "a + b + c + d + e + f + g + h + i + j + k + l >= 1");
    }

    // ---- isImplied

    static void promise05IsImpliedOfNoText() {
        PseudoBoolean x = new PseudoBoolean();
        Check.fails("isImplied", Check.ARGUMENT, () -> x.isImplied() ? 1 : 0);
        Check.equal("error", x.errorPosition(), 0);
    }

    static void promise05IsImpliedWithoutConstraints() {
        Check.yes("a >= 0", Check.implied(new PseudoBoolean(), "a >= 0"));
        Check.no("a >= 1", Check.implied(new PseudoBoolean(), "a >= 1"));
        Check.yes("a <= 1", Check.implied(new PseudoBoolean(), "a <= 1"));
        Check.no("a <= 0", Check.implied(new PseudoBoolean(), "a <= 0"));
    }

    static void promise05IsImpliedWithoutModels() {
        PseudoBoolean x = Check.with("0a >= 1");
        Check.yes("no terms", Check.implied(x, "0a >= 1"));
        Check.yes("more than can be", Check.implied(x, "a >= 2"));
        Check.yes("an equation", Check.implied(x, "a = -1"));
    }

    static void promise05IsImpliedWithoutTerms() {
        PseudoBoolean x = Check.with("a >= 1");
        Check.yes("0 >= 0", Check.implied(x, "0b >= 0"));
        Check.no("0 >= 1", Check.implied(x, "0b >= 1"));
        Check.yes("0 >= -1", Check.implied(x, "0b >= -1"));
        Check.yes("0 = 0", Check.implied(x, "b - b = 0"));
    }

    static void promise05IsImpliedUpToTheLeastSum() {
        PseudoBoolean x = Check.with("a+b+c+d+e+f+g+h+i+j+k+l >= 11");
        Check.yes("11", Check.implied(x, "a+b+c+d+e+f+g+h+i+j+k+l >= 11"));
        Check.no("12", Check.implied(x, "a+b+c+d+e+f+g+h+i+j+k+l >= 12"));
        Check.yes("at most 12", Check.implied(x, "a+b+c+d+e+f+g+h+i+j+k+l <= 12"));
        Check.no("at most 11", Check.implied(x, "a+b+c+d+e+f+g+h+i+j+k+l <= 11"));
    }

    static void promise05IsImpliedWithOneModel() {
        PseudoBoolean all = Check.with("a+b+c+d+e+f+g+h+i+j+k+l >= 12");
        Check.yes("a", Check.implied(all, "a = 1"));
        Check.yes("l", Check.implied(all, "l = 1"));
        PseudoBoolean none = Check.with("a+b+c+d+e+f+g+h+i+j+k+l <= 0");
        Check.yes("~a", Check.implied(none, "a = 0"));
        Check.yes("~l", Check.implied(none, "l = 0"));
        Check.no("not a", Check.implied(none, "a >= 1"));
        Check.no("nor l", Check.implied(none, "l >= 1"));
    }

    static void promise05IsImpliedNeedsBothPartsOfAnEquation() {
        PseudoBoolean x = Check.with("a + b >= 1", "c + d <= 1");
        Check.no("only the first", Check.implied(x, "a + b = 1"));
        Check.no("only the second", Check.implied(x, "c + d = 1"));
        Check.yes("both", Check.implied(Check.with("a + b = 1"), "a + b = 1"));
    }

    static void promise05IsImpliedAtSixty() {
        PseudoBoolean x = withConstraints(60);
        Check.yes("b = b", Check.implied(x, "b - b = 0"));
        Check.no("b", Check.implied(x, "b >= 1"));
        Check.equal("60", x.constraintCount(), 60);
    }

    static void promise05IsImpliedLooksAtAllModelsInAConflict() {
        PseudoBoolean x = Check.with("a + b >= 1");
        x.decide(0);
        Check.post(x, "a <= 0");
        Check.yes("a conflict", x.isConflicting());
        Check.yes("b follows from the constraints", Check.implied(x, "b >= 1"));
        Check.no("c does not", Check.implied(x, "c >= 1"));
    }

    static void promise05IsImpliedEmptiesTheBufferInAnyCase() {
        PseudoBoolean x = new PseudoBoolean();
        Check.implied(x, "a >= 0");
        Check.hasEmptyBuffer("yes", x);
        Check.implied(x, "a >= 1");
        Check.hasEmptyBuffer("no", x);
        Check.put(x, "a");
        Check.fails("an error", Check.ARGUMENT, () -> x.isImplied() ? 1 : 0);
        Check.hasEmptyBuffer("an error", x);
    }

    // ---- errorPosition

    static void promise06ErrorPositionBeforeAnyText() {
        PseudoBoolean x = new PseudoBoolean();
        Check.equal("at first", x.errorPosition(), -1);
        Check.put(x, "?");
        Check.equal("before the text is read", x.errorPosition(), -1);
    }

    static void promise06ErrorPositionAtTheFirstByte() {
        Check.refuses("?", 0);
        Check.refuses("+a >= 1", 0);
        Check.refuses("=", 0);
    }

    static void promise06ErrorPositionAtTheLastByte() {
        Check.refuses("a >= 1" + Check.repeated(" ", 193) + "?", 199);
        Check.refuses(Check.repeated("a+", 99) + "a?", 199);
        Check.refuses("a >= 1" + Check.repeated(" ", 193) + ">", 199);
    }

    static void promise06ErrorPositionBehindTheLastByte() {
        Check.refuses("", 0);
        Check.refuses("-", 1);
        Check.refuses("a", 1);
        Check.refuses("a >= ", 5);
        Check.refuses(Check.repeated(" ", 200), 200);
        Check.refuses(Check.repeated("a+", 100), 200);
        Check.refuses(Check.repeated(" ", 198) + "a=", 200);
    }

    static void promise06ErrorPositionOfARelationAtTheEnd() {
        Check.refuses("a >", 2);
        Check.refuses("a > =1", 2);
        Check.refuses("a <", 2);
        Check.refuses("a < =1", 2);
        Check.refuses(Check.repeated(" ", 198) + "a>", 199);
    }

    static void promise06ErrorPositionOfTooLongANumber() {
        // Its first byte, also where no number can stand, and also at the end of a full buffer.
        Check.refuses("a 1234567 >= 1", 2);
        Check.refuses("12345678", 0);
        Check.refuses("a >=" + Check.repeated(" ", 189) + "1234567", 193);
        Check.refuses("a >=" + Check.repeated("1", 196), 4);
    }

    static void promise06ErrorPositionOfANumberWithoutALetter() {
        Check.refuses("123456", 6);
        Check.refuses("123456 >= 1", 7);
        Check.refuses("2 3a >= 1", 2);
    }

    static void promise06ErrorPositionIsTheFirstErrorsOne() {
        Check.refuses("a ?? 1234567 m", 2);
        Check.refuses("a >= 1 ) )", 7);
        Check.refuses("a >= 1234567 ?", 5);
    }

    static void promise06ErrorPositionOfTheLatestTextOnly() {
        PseudoBoolean x = new PseudoBoolean();
        Check.put(x, "a + ?");
        Check.fails("post", Check.ARGUMENT, x::post);
        Check.equal("of post", x.errorPosition(), 4);
        Check.put(x, "a ?");
        Check.fails("isImplied", Check.ARGUMENT, () -> x.isImplied() ? 1 : 0);
        Check.equal("of isImplied", x.errorPosition(), 2);
        Check.post(x, "a >= 1");
        Check.equal("of a correct one", x.errorPosition(), -1);
    }

    static void promise06ErrorPositionOfACorrectTextWithoutRoom() {
        PseudoBoolean x = withConstraints(60);
        Check.put(x, "a ?");
        Check.fails("an error", Check.ARGUMENT, x::post);
        Check.equal("its position", x.errorPosition(), 2);
        Check.put(x, "a >= 1");
        Check.fails("no room", Check.STATE, x::post);
        Check.equal("no error", x.errorPosition(), -1);
    }

    // ---- write and outputByte

    static void promise07WriteOfTheFirstAndTheLastConstraint() {
        PseudoBoolean x = withConstraints(60);
        Check.equal("write(0)", x.write(0), 6);
        Check.equal("write(59)", x.write(59), 6);
        Check.fails("write(60)", Check.INDEX, () -> x.write(60));
        Check.fails("write(-1)", Check.INDEX, () -> x.write(-1));
    }

    static void promise07WriteWithoutConstraints() {
        Check.fails("write(0)", Check.INDEX, () -> new PseudoBoolean().write(0));
    }

    static void promise07WriteOfARemovedConstraint() {
        PseudoBoolean x = Check.with("a >= 1");
        x.push();
        Check.post(x, "b >= 1");
        x.write(1);
        x.pop();
        Check.fails("write(1)", Check.INDEX, () -> x.write(1));
        Check.equal("the output is kept", x.outputByte(0), 'b');
    }

    static void promise07WriteOfCoefficients() {
        PseudoBoolean x = Check.with("0a + 1b + 2c + 10~d >= 1");
        Check.equal("0, 1, 2 and 10", Check.written(x, 0), "b + 2c + 10~d >= 1");
    }

    static void promise07WriteWithoutTerms() {
        Check.equal("degree 0", Check.with("0a >= 0").write(0), 6);
        PseudoBoolean x = Check.with("0a >= 999999");
        Check.equal("degree 999999", Check.written(x, 0), "0 >= 999999");
    }

    static void promise07WriteOfOneTermAndOfTwelve() {
        PseudoBoolean x = Check.with("~l >= 0", "-a-b-c-d-e-f-g-h-i-j-k-l>=-9");
        Check.equal("one", Check.written(x, 0), "~l >= 0");
        Check.equal(
                "twelve",
                Check.written(x, 1),
                "~a + ~b + ~c + ~d + ~e + ~f + ~g + ~h + ~i + ~j + ~k + ~l >= 3");
    }

    static void promise07WriteOfTheGreatestNumbers() {
        PseudoBoolean x = Check.with("-1000a-1000b-1000c-1000d-1000e-1000f-1000g-1000h-1000i-1000j-1000k-1000l>=-11000");
        x.multiple(0, 1000);
        x.multiple(1, 1000);
        Check.equal("its length", x.write(2), 12 * 12 + 11 * 3 + 4 + 10);
        Check.equal("the last byte", x.outputByte(190), '0');
        Check.fails("behind it", Check.INDEX, () -> x.outputByte(191));
    }

    static void promise07WriteReplacesALongerAndAShorterOutput() {
        PseudoBoolean x = Check.with("a + b >= 1", "c >= 2");
        x.write(0);
        x.write(1);
        Check.equal("the shorter one", x.outputByte(5), '2');
        Check.fails("behind it", Check.INDEX, () -> x.outputByte(6));
        x.write(0);
        Check.equal("the longer one", x.outputByte(9), '1');
        Check.fails("behind it", Check.INDEX, () -> x.outputByte(10));
    }

    static void promise08OutputByteOfNoOutput() {
        PseudoBoolean x = Check.with("a >= 1");
        Check.fails("outputByte(0)", Check.INDEX, () -> x.outputByte(0));
        Check.fails("outputByte(-1)", Check.INDEX, () -> x.outputByte(-1));
        Check.fails("write", Check.INDEX, () -> x.write(1));
        Check.fails("outputByte(0) behind a refused write", Check.INDEX, () -> x.outputByte(0));
    }

    static void promise08OutputByteOfTheFirstAndTheLast() {
        PseudoBoolean x = Check.with("a >= 7");
        x.write(0);
        Check.equal("outputByte(0)", x.outputByte(0), 'a');
        Check.equal("outputByte(5)", x.outputByte(5), '7');
        Check.fails("outputByte(6)", Check.INDEX, () -> x.outputByte(6));
        Check.fails("outputByte(-1)", Check.INDEX, () -> x.outputByte(-1));
        Check.fails("the greatest", Check.INDEX, () -> x.outputByte(Integer.MAX_VALUE));
        Check.fails("the least", Check.INDEX, () -> x.outputByte(Integer.MIN_VALUE));
    }
}
