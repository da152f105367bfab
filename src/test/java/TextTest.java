/** Promises 2 to 8: the text buffer, reading constraints, and the output. */
final class TextTest {
    public static void main(String[] args) {
        promise2Feed();
        promise3Trim();
        promise4PostReads();
        promise4PostNormalises();
        promise4PostRefuses();
        promise4PostKeepsTheLimit();
        promise5IsImplied();
        promise6ErrorPosition();
        promise6ErrorPositionOfEachState();
        promise6ErrorPositionLifetime();
        promise7Write();
        promise8OutputByte();
        Check.finish();
    }

    private static void promise2Feed() {
        PseudoBoolean x = new PseudoBoolean();
        for (int i = 1; i <= 10; i++) {
            Check.equal("feed " + i, x.feed(-1, 0, Integer.MAX_VALUE, Integer.MIN_VALUE, 5), 20 * i);
        }
        Check.failsLeaving(x, "feed beyond 200 bytes", Check.STATE, () -> x.feed(0, 0, 0, 0, 0));
        Check.equal("the full buffer is kept", x.trim(200), 200);
        x.trim(180);
        Check.equal("feed to 200 again", x.feed(0, 0, 0, 0, 0), 200);
        x.trim(181);
        Check.failsLeaving(x, "feed from 181 bytes", Check.STATE, () -> x.feed(0, 0, 0, 0, 0));
        Check.equal("181 bytes are kept", x.trim(181), 181);

        // The bytes come from the highest to the lowest, and from a to e.
        PseudoBoolean y = new PseudoBoolean();
        y.feed(0x3161202B, 0x2032622B, 0x33632B34, 0x64202B35, 0x65203E3D);
        y.feed(0x37202020, 0x20202020, 0x20202020, 0x20202020, 0x20202020);
        y.post();
        Check.equal("the text", Check.written(y, 0), "a + 2b + 3c + 4d + 5e >= 7");
    }

    private static void promise3Trim() {
        PseudoBoolean x = new PseudoBoolean();
        Check.equal("trim(0) of the empty buffer", x.trim(0), 0);
        Check.fails("trim(1) of the empty buffer", Check.ARGUMENT, () -> x.trim(1));
        Check.fails("trim(-1)", Check.ARGUMENT, () -> x.trim(-1));
        Check.fails("trim of the least int", Check.ARGUMENT, () -> x.trim(Integer.MIN_VALUE));
        x.feed(0, 0, 0, 0, 0);
        Check.fails("trim(21) of 20 bytes", Check.ARGUMENT, () -> x.trim(21));
        Check.equal("trim(20) of 20 bytes", x.trim(20), 20);
        Check.equal("trim(7)", x.trim(7), 7);
        Check.fails("trim(8) of 7 bytes", Check.ARGUMENT, () -> x.trim(8));
        Check.equal("feed behind 7 bytes", x.feed(0, 0, 0, 0, 0), 27);

        Check.put(x, "a >= 1 a");
        x.trim(6);
        Check.equal("post of the first bytes", x.post(), 0);
        Check.equal("their text", Check.written(x, 0), "a >= 1");
    }

    private static void reads(String text, String... due) {
        PseudoBoolean x = Check.with("l >= 0");
        Check.equal("post of \"" + text + "\"", Check.post(x, text), 1);
        Check.equal("the constraints of \"" + text + "\"", x.constraintCount(), 1 + due.length);
        for (int i = 0; i < due.length && i + 1 < x.constraintCount(); i++) {
            Check.equal("\"" + text + "\"", Check.written(x, i + 1), due[i]);
        }
        Check.equal("no error in \"" + text + "\"", x.errorPosition(), -1);
        Check.equal("the buffer behind \"" + text + "\"", x.feed(0, 0, 0, 0, 0), 20);
    }

    private static void promise4PostReads() {
        reads("a>=1", "a >= 1");
        reads("  a  >=  1  ", "a >= 1");
        reads("2a+b>=2", "2a + b >= 2");
        reads("2 ~ a + ~b >= 2", "2~a + ~b >= 2");
        reads("999999a >= 999999", "999999a >= 999999");
        reads("000007a >= 000003", "7a >= 3");
        reads("a + b <= 1", "~a + ~b >= 1");
        reads("a + 2b = 2", "a + 2b >= 2", "~a + 2~b >= 1");
        reads("-a >= -0", "~a >= 1");
        reads("a - b >= - 1", "a + ~b >= 0");
        reads("-3a - 2~b <= -4", "3a + 2~b >= 4");
        reads("-2a = -1", "2~a >= 1", "2a >= 1");
        reads("a+b+c+d+e+f+g+h+i+j+k+l>=12", "a + b + c + d + e + f + g + h + i + j + k + l >= 12");
        // 200 bytes: 100 terms and as many signs, and at the end a relation of its shortest form.
        reads(Check.repeated("a+", 98) + "a=99", "99a >= 99", "99~a >= 0");
        reads("a>=1" + Check.repeated(" ", 196), "a >= 1");
        reads(Check.repeated("999999a+", 24) + "9a>=7", "23999985a >= 7");
    }

    private static void promise4PostNormalises() {
        reads("0a >= 0", "0 >= 0");
        reads("0a >= 5", "0 >= 5");
        reads("a >= -3", "a >= 0");
        reads("a <= -3", "~a >= 4");
        reads("a + a + 3a >= 4", "5a >= 4");
        reads("a + ~a >= 1", "0 >= 0");
        reads("a + ~a >= 3", "0 >= 2");
        reads("a + ~a = 1", "0 >= 0", "0 >= 0");
        reads("5a + 3~a >= 4", "2a >= 1");
        reads("3a + 5~a >= 4", "2~a >= 1");
        reads("3a - 5a >= -1", "2~a >= 1");
        reads("a - a >= 0", "0 >= 0");
        reads("~a - ~a >= 1", "0 >= 1");
        reads("2~a - 3a >= 1", "5~a >= 4");
        reads("l + 2k + 3a >= 2", "3a + 2k + l >= 2");
        reads("2a - 2~b <= 0", "2~a + 2~b >= 2");
        reads("-999999a >= -999999", "999999~a >= 0");
    }

    private static void refuses(String text, int position) {
        PseudoBoolean x = Check.with("a + b >= 1");
        Check.put(x, text);
        Check.failsLeaving(x, "post of \"" + text + "\"", Check.ARGUMENT, x::post);
        Check.equal("the error in \"" + text + "\"", x.errorPosition(), position);
        Check.equal("the buffer behind \"" + text + "\"", x.feed(0, 0, 0, 0, 0), 20);
        Check.put(x, text);
        Check.failsLeaving(x, "isImplied of \"" + text + "\"", Check.ARGUMENT, () -> x.isImplied() ? 1 : 0);
        Check.equal("the error in \"" + text + "\" for isImplied", x.errorPosition(), position);
        Check.equal("the buffer behind it", x.feed(0, 0, 0, 0, 0), 20);
    }

    private static void promise4PostRefuses() {
        refuses("", 0);
        refuses("   ", 3);
        refuses(">= 1", 0);
        refuses("a + b", 5);
        refuses("a >= 1 b", 7);
        refuses("A >= 1", 0);
        refuses("m >= 1", 0);
    }

    private static void promise4PostKeepsTheLimit() {
        PseudoBoolean x = new PseudoBoolean();
        for (int i = 0; i < 59; i++) {
            Check.equal("post " + i, Check.post(x, "a + b >= 1"), i);
        }
        Check.put(x, "a +");
        Check.fails("post of a wrong text", Check.ARGUMENT, x::post);
        Check.equal("its error", x.errorPosition(), 3);
        Check.put(x, "a + b = 1");
        Check.failsLeaving(x, "post of two at 59", Check.STATE, x::post);
        Check.equal("59 are kept", x.constraintCount(), 59);
        Check.equal("no error in the text for which there is no room", x.errorPosition(), -1);
        Check.equal("the buffer behind it", x.feed(0, 0, 0, 0, 0), 20);
        Check.equal("post 59", Check.post(x, "c >= 1"), 59);
        Check.put(x, "a >= 1");
        Check.failsLeaving(x, "post of one at 60", Check.STATE, x::post);
        Check.put(x, "a >=");
        Check.fails("a wrong text comes before the limit", Check.ARGUMENT, x::post);
        Check.yes("isImplied needs no room", Check.implied(x, "c = 1"));

        PseudoBoolean y = new PseudoBoolean();
        for (int i = 0; i < 30; i++) {
            Check.equal("post of two " + i, Check.post(y, "a + b = 1"), 2 * i);
        }
        Check.equal("60 constraints", y.constraintCount(), 60);
    }

    private static void promise5IsImplied() {
        PseudoBoolean x = Check.with("a + b >= 1", "a + c >= 1", "b + c >= 1");
        Check.yes("two of three", Check.implied(x, "a + b + c >= 2"));
        Check.no("all three", Check.implied(x, "a + b + c >= 3"));
        Check.no("at most two", Check.implied(x, "a + b + c <= 2"));
        Check.yes("at most three", Check.implied(x, "a + b + c <= 3"));
        Check.no("exactly two: only the first holds", Check.implied(x, "a + b + c = 2"));
        Check.no("exactly four: only the second holds", Check.implied(x, "a + b + c = 4"));
        Check.no("a", Check.implied(x, "a >= 1"));
        Check.yes("no demand", Check.implied(x, "l >= 0"));
        Check.no("an impossible one", Check.implied(x, "l >= 2"));
        x.decide(0);
        Check.no("decisions do not count", Check.implied(x, "a >= 1"));
        Check.equal("nothing is added", x.constraintCount(), 3);
        long before = x.digest();
        Check.yes("a two-sided one", Check.implied(x, "a + ~a = 1"));
        Check.equal("the digest is kept", x.digest(), before);
        Check.equal("the buffer is empty", x.feed(0, 0, 0, 0, 0), 20);

        PseudoBoolean z = Check.with("g + h + i + j + k + l <= 0");
        Check.no("only low masks break it", Check.implied(z, "a >= 1"));
        PseudoBoolean y = Check.with("a + b + c = 2");
        Check.yes("an equation follows", Check.implied(y, "a + b + c = 2"));
        Check.yes("so does its negated form", Check.implied(y, "~a + ~b + ~c = 1"));
        Check.post(y, "0a >= 1");
        Check.yes("without models all is implied", Check.implied(y, "0a >= 5"));
        Check.yes("an equation too", Check.implied(y, "a = 7"));
    }

    private static void promise6ErrorPosition() {
        Check.equal("at first", new PseudoBoolean().errorPosition(), -1);
        refuses("a + >= 1", 4);
        refuses("+ a >= 1", 0);
        refuses("a ? b", 2);
        refuses("a b >= 1", 2);
        refuses("a + 2 >= 1", 6);
        refuses("a + 2 3b >= 1", 6);
        refuses("a > = 1", 2);
        refuses("a < 1", 2);
        refuses("a >", 2);
        refuses("a <", 2);
        refuses("a => 1", 3);
        refuses("a >== 1", 4);
        refuses("a == 1", 3);
        refuses("a >= + 1", 5);
        refuses("a >= -- 1", 6);
        refuses("a >= b", 5);
        refuses("a >= 1 +", 7);
        refuses("a >= 1 2", 7);
        refuses("a >= 1.", 6);
        refuses("1234567a >= 1", 0);
        refuses("0000001a >= 1", 0);
        refuses("a + 1234567", 4);
        refuses("a >= 1234567", 5);
        refuses("a >= -1234567", 6);
        refuses("a 1234567", 2);
        refuses("a >= 1 1234567", 7);
        refuses("a >= 12345678901234567890", 5);
        refuses(Check.repeated("9", 200), 0);
        refuses(Check.repeated(" ", 200), 200);
        refuses(Check.repeated("a+", 100), 200);
        refuses(Check.repeated("~", 200), 1);
        refuses("a >= 1\u0000", 6);
        refuses("a\t>= 1", 1);
        refuses("\u00ff", 0);
        refuses("\u00e1 >= 1", 0);
    }

    /** What can stand behind each beginning: all else is an error at its place. */
    private static void promise6ErrorPositionOfEachState() {
        String[] beginnings = {"", "-", "2", "~", "a", "a>=", "a<=-", "a=3"};
        String[] allowed = {"-2~a", "2~a", "~a", "a", "+-=", "-2", "2", ""};
        for (int i = 0; i < beginnings.length; i++) {
            // A blank, so that a digit or = does not belong to the token before it.
            String beginning = beginnings[i] + " ";
            for (int c = 0; c < 256; c++) {
                boolean stands = allowed[i].indexOf(c) >= 0 || c == ' ';
                stands |= c >= '0' && c <= '9' && allowed[i].indexOf('2') >= 0;
                stands |= c >= 'a' && c <= 'l' && allowed[i].indexOf('a') >= 0;
                if (!stands) {
                    refusesQuickly(beginning + (char) c + "  ", beginning.length());
                }
            }
            if (!beginnings[i].equals("a=3")) {
                refusesQuickly(beginning, beginning.length());
            }
        }
    }

    private static void refusesQuickly(String text, int position) {
        PseudoBoolean x = new PseudoBoolean();
        Check.put(x, text);
        Check.fails("post of \"" + text + "\"", Check.ARGUMENT, x::post);
        Check.equal("the error in \"" + text + "\"", x.errorPosition(), position);
    }

    private static void promise6ErrorPositionLifetime() {
        PseudoBoolean x = new PseudoBoolean();
        Check.put(x, "a +");
        Check.fails("post", Check.ARGUMENT, x::post);
        x.feed(0, 0, 0, 0, 0);
        x.trim(0);
        x.push();
        Check.equal("other calls keep it", x.errorPosition(), 3);
        Check.yes("a correct text", Check.implied(x, "a >= 0"));
        Check.equal("a correct isImplied ends it", x.errorPosition(), -1);
        Check.fails("isImplied of the empty buffer", Check.ARGUMENT, () -> x.isImplied() ? 1 : 0);
        Check.equal("its error", x.errorPosition(), 0);
        Check.post(x, "a >= 1");
        Check.equal("a correct post ends it", x.errorPosition(), -1);
    }

    private static void promise7Write() {
        PseudoBoolean x = Check.with("2a + ~b - c >= 2", "a >= 0", "0a >= 3");
        Check.equal("the length", x.write(0), 17);
        Check.equal("all forms", Check.written(x, 0), "2a + ~b + ~c >= 3");
        Check.equal("one term", Check.written(x, 1), "a >= 0");
        Check.equal("no terms", Check.written(x, 2), "0 >= 3");
        Check.equal("the length without terms", x.write(2), 6);
        Check.fails("write(3)", Check.INDEX, () -> x.write(3));
        Check.fails("write(-1)", Check.INDEX, () -> x.write(-1));
        Check.equal("a failed write keeps the output", x.outputByte(5), '3');
        x.write(1);
        Check.fails("the former output is replaced", Check.INDEX, () -> x.outputByte(6));

        PseudoBoolean y = new PseudoBoolean();
        Check.fails("write(0) of none", Check.INDEX, () -> y.write(0));
        Check.post(y, "-a-b-c-d-e-f-g-h-i-j-k-l>=-11");
        for (int i = 0; i < 3; i++) {
            y.multiple(i, 1000);
        }
        Check.equal(
                "the longest",
                Check.written(y, 3),
                "1000000000~a + 1000000000~b + 1000000000~c + 1000000000~d + 1000000000~e + "
                        + "1000000000~f + 1000000000~g + 1000000000~h + 1000000000~i + "
                        + "1000000000~j + 1000000000~k + 1000000000~l >= 1000000000");
        Check.equal("its length", y.write(3), 191);
    }

    private static void promise8OutputByte() {
        PseudoBoolean x = Check.with("12~a + l >= 10");
        Check.fails("outputByte(0) at first", Check.INDEX, () -> x.outputByte(0));
        Check.fails("outputByte(-1) at first", Check.INDEX, () -> x.outputByte(-1));
        Check.equal("the length", x.write(0), 14);
        String due = "12~a + l >= 10";
        for (int i = 0; i < due.length(); i++) {
            Check.equal("outputByte(" + i + ")", x.outputByte(i), due.charAt(i));
        }
        Check.fails("outputByte(-1)", Check.INDEX, () -> x.outputByte(-1));
        Check.fails("outputByte(14)", Check.INDEX, () -> x.outputByte(14));
        Check.fails("outputByte of the greatest int", Check.INDEX, () -> x.outputByte(Integer.MAX_VALUE));
    }
}
