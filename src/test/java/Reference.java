import java.math.BigInteger;
import java.util.ArrayList;
import java.util.Arrays;
import java.util.BitSet;
import java.util.List;
import java.util.NoSuchElementException;

/**
 * The document told once more, as plainly as possible and by other means than the program: numbers
 * of any size, sets of masks, a table of states for texts. RandomRunsTest compares both.
 */
final class Reference {
    private static final BigInteger GREATEST = BigInteger.valueOf(1000000000L);

    /** A constraint as weights of the variables (negative for negated literals) and a degree. */
    private static final class Line {
        final BigInteger[] weights = new BigInteger[12];
        BigInteger degree;
        final BitSet fulfilling = new BitSet(4096);

        /** From a linear inequality: the weighted sum of the variables is at least the bound. */
        Line(BigInteger[] linear, BigInteger bound) {
            BigInteger result = bound;
            for (int v = 0; v < 12; v++) {
                weights[v] = linear[v];
                if (linear[v].signum() < 0) {
                    result = result.subtract(linear[v]);
                }
            }
            degree = result.max(BigInteger.ZERO);
        }

        BigInteger bound() {
            BigInteger bound = degree;
            for (BigInteger weight : weights) {
                if (weight.signum() < 0) {
                    bound = bound.add(weight);
                }
            }
            return bound;
        }

        BigInteger coefficient(int literal) {
            BigInteger weight = weights[literal / 2];
            BigInteger signed = literal % 2 == 0 ? weight : weight.negate();
            return signed.max(BigInteger.ZERO);
        }

        boolean inBounds() {
            for (BigInteger weight : weights) {
                if (weight.abs().compareTo(GREATEST) > 0) {
                    return false;
                }
            }
            return degree.compareTo(GREATEST) <= 0;
        }

        /** Finds the fulfilling masks, with plain long sums, as the numbers are in bounds. */
        Line finish() {
            for (int mask = 0; mask < 4096; mask++) {
                long sum = 0;
                for (int v = 0; v < 12; v++) {
                    long weight = weights[v].longValue();
                    boolean isTrue = (mask & 1 << v) != 0;
                    if (weight > 0 == isTrue) {
                        sum += Math.abs(weight);
                    }
                }
                if (sum >= degree.longValue()) {
                    fulfilling.set(mask);
                }
            }
            return this;
        }

        long slack(int[] values) {
            long sum = -degree.longValue();
            for (int v = 0; v < 12; v++) {
                long weight = weights[v].longValue();
                boolean isFalse = weight > 0 ? values[v] == 0 : values[v] == 1;
                sum += isFalse ? 0 : Math.abs(weight);
            }
            return sum;
        }

        int termCount() {
            int terms = 0;
            for (BigInteger weight : weights) {
                terms += weight.signum() != 0 ? 1 : 0;
            }
            return terms;
        }

        int cardinality() {
            BigInteger[] sizes = new BigInteger[12];
            for (int v = 0; v < 12; v++) {
                sizes[v] = weights[v].abs();
            }
            Arrays.sort(sizes);
            BigInteger sum = BigInteger.ZERO;
            for (int k = 0; k <= termCount(); k++) {
                if (sum.compareTo(degree) >= 0) {
                    return k;
                }
                if (k < 12) {
                    sum = sum.add(sizes[11 - k]);
                }
            }
            return termCount() + 1;
        }

        String written() {
            List<String> terms = new ArrayList<>();
            for (int v = 0; v < 12; v++) {
                if (weights[v].signum() != 0) {
                    String size = weights[v].abs().toString();
                    String sign = weights[v].signum() < 0 ? "~" : "";
                    terms.add((size.equals("1") ? "" : size) + sign + "abcdefghijkl".charAt(v));
                }
            }
            return (terms.isEmpty() ? "0" : String.join(" + ", terms)) + " >= " + degree;
        }
    }

    private String buffer = "";
    private int error = -1;
    private String output = "";
    private final List<Line> lines = new ArrayList<>();
    private final List<Integer> decisions = new ArrayList<>();
    private final List<List<Integer>> savedDecisions = new ArrayList<>();
    private final List<Integer> savedCounts = new ArrayList<>();
    private final int[] costs = new int[12];
    private int[] values = new int[12];
    private boolean conflict;
    private List<Integer> group = List.of();
    private List<Integer> reason = List.of();

    Reference() {
        Arrays.fill(values, -1);
    }

    int feed(int a, int b, int c, int d, int e) {
        if (buffer.length() + 20 > 200) {
            throw new IllegalStateException();
        }
        StringBuilder longer = new StringBuilder(buffer);
        for (int four : new int[] {a, b, c, d, e}) {
            for (int shift = 24; shift >= 0; shift -= 8) {
                longer.append((char) (four >>> shift & 0xFF));
            }
        }
        buffer = longer.toString();
        return buffer.length();
    }

    int trim(int n) {
        if (n < 0 || n > buffer.length()) {
            throw new IllegalArgumentException();
        }
        buffer = buffer.substring(0, n);
        return n;
    }

    /** The states of the grammar by the kind of the next token; -1 where it cannot stand. */
    private static final String KINDS = "+-~>n.l";

    private static final int[][] NEXT = {
        // +, -, ~, relation, number, end, letter
        {-1, 1, 3, -1, 2, -1, 4}, // 0: at the start
        {-1, -1, 3, -1, 2, -1, 4}, // 1: behind a sign
        {-1, -1, 3, -1, -1, -1, 4}, // 2: behind the number of a term
        {-1, -1, -1, -1, -1, -1, 4}, // 3: behind ~
        {1, 1, -1, 5, -1, -1, -1}, // 4: behind a letter
        {-1, 6, -1, -1, 7, -1, -1}, // 5: behind the relation
        {-1, -1, -1, -1, 7, -1, -1}, // 6: behind the minus of the last number
        {-1, -1, -1, -1, -1, 8, -1}, // 7: behind the last number
    };

    private List<Line> read() {
        String text = buffer;
        buffer = "";
        BigInteger[] linear = new BigInteger[12];
        Arrays.fill(linear, BigInteger.ZERO);
        BigInteger constant = BigInteger.ZERO;
        BigInteger bound = BigInteger.ZERO;
        long size = 1;
        int sign = 1;
        boolean negated = false;
        String relation = "";
        int state = 0;
        int at = 0;
        while (state != 8) {
            while (at < text.length() && text.charAt(at) == ' ') {
                at++;
            }
            String token = tokenAt(text, at);
            int kind = kindOf(token, at == text.length());
            if (kind < 0 || NEXT[state][kind] < 0 || kind == 4 && token.length() > 6) {
                error = at;
                throw new IllegalArgumentException();
            }
            state = NEXT[state][kind];
            at += token.length();
            switch (state) {
                case 1, 6 -> sign = token.equals("-") ? -1 : 1;
                case 2 -> size = Long.parseLong(token);
                case 3 -> negated = true;
                case 4 -> {
                    int v = token.charAt(0) - 'a';
                    BigInteger weight = BigInteger.valueOf(sign * size);
                    linear[v] = negated ? linear[v].subtract(weight) : linear[v].add(weight);
                    constant = negated ? constant.add(weight) : constant;
                    size = 1;
                    negated = false;
                }
                case 5 -> {
                    relation = token;
                    sign = 1;
                }
                case 7 -> bound = BigInteger.valueOf(sign * Long.parseLong(token));
                default -> { }
            }
        }
        error = -1;
        List<Line> read = new ArrayList<>();
        if (!relation.equals("<=")) {
            read.add(new Line(linear, bound.subtract(constant)));
        }
        if (!relation.equals(">=")) {
            BigInteger[] opposite = new BigInteger[12];
            for (int v = 0; v < 12; v++) {
                opposite[v] = linear[v].negate();
            }
            read.add(new Line(opposite, constant.subtract(bound)));
        }
        return read;
    }

    private static String tokenAt(String text, int at) {
        int end = at;
        while (end < text.length() && text.charAt(end) >= '0' && text.charAt(end) <= '9') {
            end++;
        }
        if (end > at) {
            return text.substring(at, end);
        }
        if (text.startsWith(">=", at) || text.startsWith("<=", at)) {
            return text.substring(at, at + 2);
        }
        return at < text.length() ? text.substring(at, at + 1) : "";
    }

    private static int kindOf(String token, boolean atEnd) {
        if (atEnd) {
            return KINDS.indexOf('.');
        }
        char first = token.charAt(0);
        if (first >= '0' && first <= '9') {
            return KINDS.indexOf('n');
        }
        if (first >= 'a' && first <= 'l') {
            return KINDS.indexOf('l');
        }
        if (token.equals("=") || token.equals(">=") || token.equals("<=")) {
            return KINDS.indexOf('>');
        }
        return first == '+' || first == '-' || first == '~' ? KINDS.indexOf(first) : -1;
    }

    int post() {
        List<Line> read = read();
        if (lines.size() + read.size() > 60) {
            throw new IllegalStateException();
        }
        int number = lines.size();
        for (Line line : read) {
            add(line);
        }
        return number;
    }

    boolean isImplied() {
        for (Line line : read()) {
            BitSet broken = models();
            broken.andNot(line.finish().fulfilling);
            if (!broken.isEmpty()) {
                return false;
            }
        }
        return true;
    }

    int errorPosition() {
        return error;
    }

    int write(int c) {
        output = line(c).written();
        return output.length();
    }

    int outputByte(int i) {
        if (i < 0 || i >= output.length()) {
            throw new IndexOutOfBoundsException();
        }
        return output.charAt(i);
    }

    int constraintCount() {
        return lines.size();
    }

    int termCount(int c) {
        return line(c).termCount();
    }

    int degree(int c) {
        return line(c).degree.intValueExact();
    }

    int coefficient(int c, int literal) {
        Line line = line(c);
        check(literal, 24);
        return line.coefficient(literal).intValueExact();
    }

    long slack(int c) {
        return line(c).slack(values);
    }

    int cardinality(int c) {
        return line(c).cardinality();
    }

    int sum(int c, int d) {
        return addCombination(line(c), 1, line(d), 1, -1);
    }

    int multiple(int c, int factor) {
        Line line = line(c);
        if (factor < 1 || factor > 1000) {
            throw new IllegalArgumentException();
        }
        return addCombination(line, factor, line, 0, -1);
    }

    int quotient(int c, int divisor) {
        Line line = line(c);
        if (divisor < 1) {
            throw new IllegalArgumentException();
        }
        requireRoom();
        BigInteger[] sizes = new BigInteger[24];
        for (int literal = 0; literal < 24; literal++) {
            sizes[literal] = rounded(line.coefficient(literal), divisor);
        }
        return addNormal(sizes, rounded(line.degree, divisor));
    }

    private static BigInteger rounded(BigInteger x, int divisor) {
        BigInteger[] parts = x.divideAndRemainder(BigInteger.valueOf(divisor));
        return parts[1].signum() == 0 ? parts[0] : parts[0].add(BigInteger.ONE);
    }

    int saturation(int c) {
        Line line = line(c);
        requireRoom();
        BigInteger[] sizes = new BigInteger[24];
        for (int literal = 0; literal < 24; literal++) {
            sizes[literal] = line.coefficient(literal).min(line.degree);
        }
        return addNormal(sizes, line.degree);
    }

    int weakening(int c, int variable) {
        Line line = line(c);
        check(variable, 12);
        if (line.weights[variable].signum() == 0) {
            throw new IllegalArgumentException();
        }
        requireRoom();
        BigInteger[] sizes = new BigInteger[24];
        for (int literal = 0; literal < 24; literal++) {
            sizes[literal] = literal / 2 == variable ? BigInteger.ZERO : line.coefficient(literal);
        }
        return addNormal(sizes, line.degree.subtract(line.weights[variable].abs()));
    }

    int resolvent(int c, int d, int variable) {
        Line one = line(c);
        Line other = line(d);
        check(variable, 12);
        BigInteger p = one.weights[variable];
        BigInteger q = other.weights[variable];
        if (p.signum() * q.signum() >= 0) {
            throw new IllegalArgumentException();
        }
        BigInteger g = p.gcd(q);
        return addCombination(
                one, q.abs().divide(g).longValue(), other, p.abs().divide(g).longValue(), variable);
    }

    int cardinalityConstraint(int c) {
        Line line = line(c);
        requireRoom();
        BigInteger[] sizes = new BigInteger[24];
        for (int literal = 0; literal < 24; literal++) {
            sizes[literal] = line.coefficient(literal).min(BigInteger.ONE);
        }
        return addNormal(sizes, BigInteger.valueOf(line.cardinality()));
    }

    boolean exclude(int first, int second) {
        check(first, 24);
        check(second, 24);
        return first != second && excludes(first, second);
    }

    private boolean excludes(int first, int second) {
        if (first / 2 == second / 2) {
            return true;
        }
        int[] two = new int[12];
        Arrays.fill(two, -1);
        two[first / 2] = first % 2 == 0 ? 1 : 0;
        two[second / 2] = second % 2 == 0 ? 1 : 0;
        for (Line line : lines) {
            if (line.slack(two) < 0) {
                return true;
            }
        }
        return false;
    }

    int group(int literal) {
        check(literal, 24);
        List<Integer> found = new ArrayList<>(List.of(literal));
        for (int other = 0; other < 24; other++) {
            boolean all = !found.contains(other);
            for (int member : found) {
                all = all && excludes(other, member);
            }
            if (all) {
                found.add(other);
            }
        }
        found.sort(null);
        group = found;
        return group.size();
    }

    int groupLiteral(int index) {
        check(index, group.size());
        return group.get(index);
    }

    int addGroup() {
        if (group.isEmpty()) {
            throw new NoSuchElementException();
        }
        requireRoom();
        // At most one of the literals: minus their sum is at least -1.
        BigInteger[] sizes = new BigInteger[24];
        Arrays.fill(sizes, BigInteger.ZERO);
        for (int literal : group) {
            sizes[literal] = BigInteger.ONE.negate();
        }
        return addNormal(sizes, BigInteger.ONE.negate());
    }

    int decide(int literal) {
        check(literal, 24);
        if (conflict || values[literal / 2] >= 0) {
            throw new IllegalStateException();
        }
        decisions.add(literal);
        derive();
        if (conflict) {
            decisions.remove(decisions.size() - 1);
            derive();
            return -1;
        }
        int known = 0;
        for (int value : values) {
            known += value >= 0 ? 1 : 0;
        }
        return known;
    }

    int undo() {
        if (decisions.isEmpty()) {
            throw new IllegalStateException();
        }
        decisions.remove(decisions.size() - 1);
        derive();
        return decisions.size();
    }

    int decisionCount() {
        return decisions.size();
    }

    boolean isConflicting() {
        return conflict;
    }

    int value(int variable) {
        check(variable, 12);
        return values[variable];
    }

    int firstModel() {
        return decidedModels().nextSetBit(0);
    }

    int nextModel(int mask) {
        if (mask < 0 || mask > 4095) {
            throw new IllegalArgumentException();
        }
        return decidedModels().nextSetBit(mask + 1);
    }

    int modelCount() {
        return decidedModels().cardinality();
    }

    boolean isForced(int literal) {
        check(literal, 24);
        BitSet models = decidedModels();
        for (int m = models.nextSetBit(0); m >= 0; m = models.nextSetBit(m + 1)) {
            if (!isTrue(literal, m)) {
                return false;
            }
        }
        return true;
    }

    int setCost(int variable, int cost) {
        check(variable, 12);
        if (Math.abs((long) cost) > 1000) {
            throw new IllegalArgumentException();
        }
        int before = costs[variable];
        costs[variable] = cost;
        return before;
    }

    int leastCost() {
        return cost(cheapestModel());
    }

    int cheapestModel() {
        BitSet models = decidedModels();
        int best = models.nextSetBit(0);
        if (best < 0) {
            throw new NoSuchElementException();
        }
        for (int m = best; m >= 0; m = models.nextSetBit(m + 1)) {
            if (cost(m) < cost(best)) {
                best = m;
            }
        }
        return best;
    }

    private int cost(int mask) {
        int cost = 0;
        for (int v = 0; v < 12; v++) {
            cost += isTrue(2 * v, mask) ? costs[v] : 0;
        }
        return cost;
    }

    int explain(int yes, int no) {
        if (yes < 0 || yes > 4095 || no < 0 || no > 4095 || (yes & no) != 0) {
            throw new IllegalArgumentException();
        }
        List<Integer> literals = new ArrayList<>();
        for (int literal = 0; literal < 24; literal++) {
            int mask = literal % 2 == 0 ? yes : no;
            if ((mask >> literal / 2 & 1) == 1) {
                literals.add(literal);
            }
        }
        if (satisfiable(literals)) {
            throw new NoSuchElementException();
        }
        for (Integer literal : List.copyOf(literals)) {
            List<Integer> others = new ArrayList<>(literals);
            others.remove(literal);
            if (!satisfiable(others)) {
                literals = others;
            }
        }
        reason = literals;
        return reason.size();
    }

    private boolean satisfiable(List<Integer> literals) {
        BitSet models = decidedModels();
        for (int m = models.nextSetBit(0); m >= 0; m = models.nextSetBit(m + 1)) {
            boolean all = true;
            for (int literal : literals) {
                all = all && isTrue(literal, m);
            }
            if (all) {
                return true;
            }
        }
        return false;
    }

    int reasonLiteral(int index) {
        check(index, reason.size());
        return reason.get(index);
    }

    int push() {
        if (savedCounts.size() == 8) {
            throw new IllegalStateException();
        }
        savedCounts.add(lines.size());
        savedDecisions.add(List.copyOf(decisions));
        return savedCounts.size();
    }

    int pop() {
        if (savedCounts.isEmpty()) {
            throw new IllegalStateException();
        }
        int last = savedCounts.size() - 1;
        int count = savedCounts.remove(last);
        while (lines.size() > count) {
            lines.remove(lines.size() - 1);
        }
        decisions.clear();
        decisions.addAll(savedDecisions.remove(last));
        derive();
        return last;
    }

    long digest() {
        List<Long> numbers = new ArrayList<>();
        numbers.add((long) lines.size());
        numbers.add((long) decisions.size());
        numbers.add((long) savedCounts.size());
        for (Line line : lines) {
            numbers.add(line.degree.longValue());
            for (int literal = 0; literal < 24; literal++) {
                if (line.coefficient(literal).signum() > 0) {
                    numbers.add((long) literal);
                    numbers.add(line.coefficient(literal).longValue());
                }
            }
        }
        for (int v = 0; v < 12; v++) {
            numbers.add((long) values[v]);
            numbers.add((long) costs[v]);
        }
        long d = 41;
        for (long x : numbers) {
            d = d * 31 + x;
        }
        return d;
    }

    // ---- what the methods share

    private static void check(int index, int count) {
        if (index < 0 || index >= count) {
            throw new IndexOutOfBoundsException();
        }
    }

    private Line line(int c) {
        check(c, lines.size());
        return lines.get(c);
    }

    private void requireRoom() {
        if (lines.size() == 60) {
            throw new IllegalStateException();
        }
    }

    private int add(Line line) {
        lines.add(line.finish());
        derive();
        return lines.size() - 1;
    }

    /** Adds a constraint of coefficients of the literals, of any sign, and a degree. */
    private int addNormal(BigInteger[] sizes, BigInteger degree) {
        BigInteger[] linear = new BigInteger[12];
        BigInteger bound = degree;
        for (int v = 0; v < 12; v++) {
            linear[v] = sizes[2 * v].subtract(sizes[2 * v + 1]);
            bound = bound.subtract(sizes[2 * v + 1]);
        }
        return add(new Line(linear, bound));
    }

    private int addCombination(Line one, long p, Line other, long q, int gone) {
        requireRoom();
        BigInteger[] linear = new BigInteger[12];
        for (int v = 0; v < 12; v++) {
            linear[v] = one.weights[v].multiply(BigInteger.valueOf(p))
                    .add(other.weights[v].multiply(BigInteger.valueOf(q)));
        }
        if (gone >= 0 && linear[gone].signum() != 0) {
            throw new AssertionError("a resolvent still has its variable");
        }
        Line line = new Line(
                linear,
                one.bound().multiply(BigInteger.valueOf(p))
                        .add(other.bound().multiply(BigInteger.valueOf(q))));
        if (!line.inBounds()) {
            throw new ArithmeticException();
        }
        return add(line);
    }

    private void derive() {
        int[] found = new int[12];
        Arrays.fill(found, -1);
        for (int literal : decisions) {
            found[literal / 2] = literal % 2 == 0 ? 1 : 0;
        }
        conflict = false;
        // One step at a time, from the last constraint and the last variable on: the order is free.
        while (step(found)) {
            if (conflict) {
                Arrays.fill(found, -1);
                break;
            }
        }
        values = found;
    }

    private boolean step(int[] found) {
        for (Line line : lines) {
            if (line.slack(found) < 0) {
                conflict = true;
                return true;
            }
        }
        for (int c = lines.size() - 1; c >= 0; c--) {
            long slack = lines.get(c).slack(found);
            for (int v = 11; v >= 0; v--) {
                long weight = lines.get(c).weights[v].longValue();
                if (found[v] < 0 && Math.abs(weight) > slack) {
                    found[v] = weight > 0 ? 1 : 0;
                    return true;
                }
            }
        }
        return false;
    }

    private BitSet models() {
        BitSet models = new BitSet(4096);
        models.set(0, 4096);
        for (Line line : lines) {
            models.and(line.fulfilling);
        }
        return models;
    }

    private BitSet decidedModels() {
        BitSet models = models();
        for (int mask = 0; mask < 4096; mask++) {
            for (int literal : decisions) {
                if (!isTrue(literal, mask)) {
                    models.clear(mask);
                }
            }
        }
        return models;
    }

    private static boolean isTrue(int literal, int mask) {
        return (mask >> literal / 2 & 1) == 1 - literal % 2;
    }
}
