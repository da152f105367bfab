import java.util.Map;
import java.util.TreeMap;

/** Compares the program with Reference over many runs of calls, the digest after each call too. */
final class RandomRunsTest {
    private static final int RUNS = 700;

    /** The document promises 512 calls; a step makes fewer than 60. */
    private static final int CALLS = 450;

    /** A number maker of its own, so that each run of the test makes the same calls. */
    private static long state = 20261119L;

    private static int below(int n) {
        state = state * 6364136223846793005L + 1442695040888963407L;
        return (int) ((state >>> 33) % n);
    }

    private static boolean oneIn(int n) {
        return below(n) == 0;
    }

    private static final Map<String, Integer> OUTCOMES = new TreeMap<>();

    private static PseudoBoolean program;
    private static Reference reference;
    private static boolean bigNumbers;
    private static boolean crowded;
    private static boolean deep;
    private static int calls;
    private static int run;

    /** A mask that most constraints of a run are made to fulfill, so that models are left; -1 without one. */
    private static int hidden;

    public static void main(String[] args) {
        for (run = 0; run < RUNS; run++) {
            program = new PseudoBoolean();
            reference = new Reference();
            bigNumbers = oneIn(3);
            crowded = oneIn(6);
            deep = oneIn(6);
            hidden = oneIn(4) ? -1 : below(4096);
            calls = 0;
            StringBuilder story = new StringBuilder();
            boolean same = true;
            while (calls < CALLS && same) {
                same = step(story);
            }
            if (!same) {
                Check.complain("run " + run + ":" + story);
                break;
            }
        }
        requireOutcomes();
        Check.finish();
    }

    /** A call of both, and whether both did the same. */
    private static boolean step(StringBuilder story) {
        int choice = below(crowded && !oneIn(3) ? 45 : 100);
        if (choice < 15) {
            String text = oneIn(40) ? " ".repeat(201) : randomText();
            for (int i = 0; i < text.length(); i += 20) {
                int a = Check.fourBytes(text, i);
                int b = Check.fourBytes(text, i + 4);
                int c = Check.fourBytes(text, i + 8);
                int d = Check.fourBytes(text, i + 12);
                int e = Check.fourBytes(text, i + 16);
                if (!bothAnswer(story, "feed", () -> program.feed(a, b, c, d, e), () -> reference.feed(a, b, c, d, e))) {
                    return false;
                }
            }
            int n = oneIn(30) ? below(260) - 20 : text.length();
            if (!bothAnswer(story, "trim " + n, () -> program.trim(n), () -> reference.trim(n))) {
                return false;
            }
            story.append(" [").append(text).append("]");
            boolean same = oneIn(4)
                    ? both(story, "isImplied", () -> bit(program.isImplied()), () -> bit(reference.isImplied()))
                    : both(story, "post", () -> program.post(), () -> reference.post());
            return same && bothAnswer(story, "errorPosition", () -> program.errorPosition(), () -> reference.errorPosition());
        }
        return choice < 45 ? cut(story) : choice < 60 ? look(story) : choice < 78 ? decideOrLevel(story) : model(story);
    }

    private static boolean cut(StringBuilder story) {
        int c = constraint();
        int d = constraint();
        int v = oneIn(5) ? variable() : commonVariable(c, d);
        switch (below(9)) {
            case 0:
                return both(story, "sum " + c + " " + d, () -> program.sum(c, d), () -> reference.sum(c, d));
            case 1:
                int factor = bigNumbers && !oneIn(5) ? 1000 : oneIn(6) ? below(1006) - 2 : 1 + below(5);
                return both(story, "multiple " + c + " " + factor, () -> program.multiple(c, factor), () -> reference.multiple(c, factor));
            case 2:
                int divisor = oneIn(10) ? Integer.MAX_VALUE : oneIn(10) ? -below(3) : 1 + below(bigNumbers ? 100000 : 6);
                return both(story, "quotient " + c + " " + divisor, () -> program.quotient(c, divisor), () -> reference.quotient(c, divisor));
            case 3:
                return both(story, "saturation " + c, () -> program.saturation(c), () -> reference.saturation(c));
            case 4:
                return both(story, "weakening " + c + " " + v, () -> program.weakening(c, v), () -> reference.weakening(c, v));
            case 5:
                return both(story, "cardinalityConstraint " + c, () -> program.cardinalityConstraint(c), () -> reference.cardinalityConstraint(c));
            case 6:
                return both(story, "addGroup", () -> program.addGroup(), () -> reference.addGroup());
            default:
                return both(story, "resolvent " + c + " " + d + " " + v, () -> program.resolvent(c, d, v), () -> reference.resolvent(c, d, v));
        }
    }

    private static boolean look(StringBuilder story) {
        int c = constraint();
        int l = literal();
        int m = literal();
        switch (below(9)) {
            case 0:
                boolean same = both(story, "write " + c, () -> program.write(c), () -> reference.write(c));
                for (int i = 0; i < 8 && same; i++) {
                    int at = below(60) - 1;
                    same = bothAnswer(story, "outputByte " + at, () -> program.outputByte(at), () -> reference.outputByte(at));
                }
                return same;
            case 1:
                return both(story, "termCount " + c, () -> program.termCount(c), () -> reference.termCount(c));
            case 2:
                return both(story, "degree " + c, () -> program.degree(c), () -> reference.degree(c));
            case 3:
                return both(story, "coefficient " + c + " " + l, () -> program.coefficient(c, l), () -> reference.coefficient(c, l));
            case 4:
                return both(story, "slack " + c, () -> program.slack(c), () -> reference.slack(c));
            case 5:
                return both(story, "cardinality " + c, () -> program.cardinality(c), () -> reference.cardinality(c));
            case 6:
                return both(story, "constraintCount", () -> program.constraintCount(), () -> reference.constraintCount());
            case 7:
                return both(story, "exclude " + l + " " + m, () -> bit(program.exclude(l, m)), () -> bit(reference.exclude(l, m)));
            default:
                boolean alike = both(story, "group " + l, () -> program.group(l), () -> reference.group(l));
                for (int i = -1; i < 25 && alike; i++) {
                    int at = i;
                    alike = bothAnswer(story, "groupLiteral " + i, () -> program.groupLiteral(at), () -> reference.groupLiteral(at));
                }
                return alike;
        }
    }

    private static boolean decideOrLevel(StringBuilder story) {
        int l = literal();
        int v = variable();
        switch (below(9)) {
            case 0, 1, 2:
                return both(story, "decide " + l, () -> program.decide(l), () -> reference.decide(l));
            case 3:
                return both(story, "undo", () -> program.undo(), () -> reference.undo());
            case 4:
                return both(story, "decisionCount", () -> program.decisionCount(), () -> reference.decisionCount());
            case 5:
                return both(story, "isConflicting", () -> bit(program.isConflicting()), () -> bit(reference.isConflicting()));
            case 6:
                return both(story, "value " + v, () -> program.value(v), () -> reference.value(v));
            case 7:
                return both(story, "push", () -> program.push(), () -> reference.push());
            default:
                return deep && !oneIn(4)
                        ? both(story, "push", () -> program.push(), () -> reference.push())
                        : both(story, "pop", () -> program.pop(), () -> reference.pop());
        }
    }

    private static boolean model(StringBuilder story) {
        int mask = oneIn(8) ? below(4200) - 60 : below(4096);
        int l = literal();
        int v = variable();
        switch (below(9)) {
            case 0:
                return both(story, "firstModel", () -> program.firstModel(), () -> reference.firstModel());
            case 1:
                return both(story, "nextModel " + mask, () -> program.nextModel(mask), () -> reference.nextModel(mask));
            case 2:
                return both(story, "modelCount", () -> program.modelCount(), () -> reference.modelCount());
            case 3:
                return both(story, "isForced " + l, () -> bit(program.isForced(l)), () -> bit(reference.isForced(l)));
            case 4:
                int cost = oneIn(10) ? below(2100) - 1050 : oneIn(4) ? below(2001) - 1000 : below(7) - 3;
                return both(story, "setCost " + v + " " + cost, () -> program.setCost(v, cost), () -> reference.setCost(v, cost));
            case 5:
                return both(story, "leastCost", () -> program.leastCost(), () -> reference.leastCost());
            case 6:
                return both(story, "cheapestModel", () -> program.cheapestModel(), () -> reference.cheapestModel());
            default:
                int other = oneIn(8) ? below(4200) - 60 : ~mask & below(4096) & below(4096);
                boolean same = both(story, "explain " + mask + " " + other, () -> program.explain(mask, other), () -> reference.explain(mask, other));
                for (int i = -1; i < 13 && same; i++) {
                    int at = i;
                    same = bothAnswer(story, "reasonLiteral " + i, () -> program.reasonLiteral(at), () -> reference.reasonLiteral(at));
                }
                return same;
        }
    }

    private static long bit(boolean answer) {
        return answer ? 1 : 0;
    }

    /** Makes the call on both; the digest is compared too, as it tells of a change that is not due. */
    private static boolean both(StringBuilder story, String call, Check.Call one, Check.Call other) {
        boolean same = bothAnswer(story, call, one, other);
        calls++;
        boolean stateIsSame = program.digest() == reference.digest();
        Check.yes("run " + run + ": the digest is due after " + call, stateIsSame);
        return same && stateIsSame;
    }

    private static boolean bothAnswer(StringBuilder story, String call, Check.Call one, Check.Call other) {
        calls++;
        String got = outcome(one);
        String due = outcome(other);
        story.append("\n  ").append(call).append(" = ").append(got);
        String name = call.split(" ")[0];
        OUTCOMES.merge(name + (due.startsWith("throws") ? " " + due : ""), 1, Integer::sum);
        Check.equal("run " + run + " " + call, got, due);
        return got.equals(due);
    }

    private static String outcome(Check.Call call) {
        try {
            return Long.toString(call.answer());
        } catch (RuntimeException e) {
            return "throws " + e.getClass().getName();
        }
    }

    private static int constraint() {
        return oneIn(25) ? below(64) - 2 : below(Math.max(1, reference.constraintCount()));
    }

    private static int literal() {
        return oneIn(25) ? below(28) - 2 : below(24);
    }

    private static int variable() {
        return oneIn(25) ? below(16) - 2 : below(12);
    }

    /** Mostly a variable of which the constraints have opposite literals, if there is one. */
    private static int commonVariable(int c, int d) {
        if (c < 0 || d < 0 || Math.max(c, d) >= reference.constraintCount()) {
            return below(12);
        }
        for (int literal = 0; literal < 24; literal++) {
            if (reference.coefficient(c, literal) > 0 && reference.coefficient(d, literal ^ 1) > 0 && !oneIn(3)) {
                return literal >> 1;
            }
        }
        return below(12);
    }

    private static String randomText() {
        StringBuilder text = new StringBuilder();
        int terms = oneIn(12) ? 12 : 1 + below(5);
        long atHidden = 0;
        blank(text);
        for (int i = 0; i < terms && text.length() < 170; i++) {
            boolean negative = oneIn(4);
            text.append(negative ? "-" : i == 0 ? "" : "+");
            blank(text);
            String size = oneIn(3) ? "" : number(bigNumbers ? 999999 : 6);
            text.append(size);
            blank(text);
            boolean negated = oneIn(2);
            int v = below(oneIn(3) ? 12 : 5);
            text.append(negated ? "~" : "").append((char) ('a' + v));
            blank(text);
            boolean counts = (hidden >> v & 1) == (negated ? 0 : 1);
            long weight = size.isEmpty() ? 1 : Long.parseLong(size);
            atHidden += !counts ? 0 : negative ? -weight : weight;
        }
        appendBound(text, atHidden);
        return oneIn(6) ? spoilt(text) : text.toString();
    }

    private static void appendBound(StringBuilder text, long atHidden) {
        String relation = oneIn(8) ? "=" : oneIn(3) ? "<=" : ">=";
        text.append(relation);
        blank(text);
        if (hidden < 0 || oneIn(12) || Math.abs(atHidden) > 900000) {
            text.append(oneIn(8) ? "-" : "").append(number(bigNumbers ? 999999 : 8));
        } else {
            int spare = oneIn(2) ? 0 : below(3);
            long bound = atHidden + (relation.equals("=") ? 0 : relation.equals("<=") ? spare : -spare);
            text.append(bound);
        }
        blank(text);
    }

    private static void blank(StringBuilder text) {
        text.append(oneIn(4) ? " " : "");
    }

    private static String number(int greatest) {
        if (oneIn(60)) {
            return oneIn(2) ? "0000000" : "1000000";
        }
        return oneIn(10) ? Integer.toString(greatest) : oneIn(15) ? "000000" : Integer.toString(below(greatest + 1));
    }

    private static String spoilt(StringBuilder text) {
        String odd = "+-~><= amlA0123456789.\u0000\u00ff";
        for (int i = 0; i <= below(3); i++) {
            int at = below(text.length());
            char c = odd.charAt(below(odd.length()));
            switch (below(4)) {
                case 0 -> text.setCharAt(at, c);
                case 1 -> text.insert(at, c);
                case 2 -> text.setLength(Math.max(1, at));
                default -> {
                    if (text.length() > 1) {
                        text.deleteCharAt(at);
                    }
                }
            }
        }
        return text.toString();
    }

    /** The comparison is worth little if the runs never reach an outcome that the document names. */
    private static void requireOutcomes() {
        String[] due = {
            "feed", "feed STATE", "trim", "trim ARGUMENT", "post", "post ARGUMENT", "post STATE",
            "isImplied", "isImplied ARGUMENT", "errorPosition", "write", "write INDEX", "outputByte",
            "outputByte INDEX", "constraintCount", "termCount", "termCount INDEX", "degree",
            "degree INDEX", "coefficient", "coefficient INDEX", "slack", "slack INDEX", "cardinality",
            "cardinality INDEX", "sum", "sum INDEX", "sum STATE", "sum ARITHMETIC", "multiple",
            "multiple INDEX", "multiple ARGUMENT", "multiple STATE", "multiple ARITHMETIC",
            "quotient", "quotient INDEX", "quotient ARGUMENT", "quotient STATE", "saturation",
            "saturation INDEX", "saturation STATE", "weakening", "weakening INDEX",
            "weakening ARGUMENT", "weakening STATE", "resolvent", "resolvent INDEX",
            "resolvent ARGUMENT", "resolvent STATE", "resolvent ARITHMETIC", "cardinalityConstraint",
            "cardinalityConstraint INDEX", "cardinalityConstraint STATE", "exclude", "exclude INDEX",
            "group", "group INDEX", "groupLiteral", "groupLiteral INDEX", "addGroup",
            "addGroup ELEMENT", "addGroup STATE", "decide", "decide INDEX", "decide STATE", "undo",
            "undo STATE", "decisionCount", "isConflicting", "value", "value INDEX", "firstModel",
            "nextModel", "nextModel ARGUMENT", "modelCount", "isForced", "isForced INDEX", "setCost",
            "setCost INDEX", "setCost ARGUMENT", "leastCost", "leastCost ELEMENT", "cheapestModel",
            "cheapestModel ELEMENT", "explain", "explain ARGUMENT", "explain ELEMENT",
            "reasonLiteral", "reasonLiteral INDEX", "push", "push STATE", "pop", "pop STATE"
        };
        for (String name : due) {
            String full = name
                    .replace("STATE", "throws " + Check.STATE.getName())
                    .replace("ARGUMENT", "throws " + Check.ARGUMENT.getName())
                    .replace("INDEX", "throws " + Check.INDEX.getName())
                    .replace("ARITHMETIC", "throws " + Check.ARITHMETIC.getName())
                    .replace("ELEMENT", "throws " + Check.ELEMENT.getName());
            Check.yes("the runs reach " + full, OUTCOMES.getOrDefault(full, 0) > 0);
        }
        if (System.getProperty("outcomes") != null) {
            OUTCOMES.forEach((name, times) -> System.out.println(times + " " + name));
        }
    }
}
