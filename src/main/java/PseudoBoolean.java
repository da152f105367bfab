import java.util.Arrays;
import java.util.NoSuchElementException;

/**
 * A solver for pseudo-Boolean constraints: linear inequalities over twelve variables that are true
 * or false. Literal 2 * v is variable v, literal 2 * v + 1 its negation, so literal ^ 1 is always
 * the opposite literal and literal >> 1 the variable.
 *
 * <p>All rows are made by the constructor and used again: a call makes no object but the exception
 * that it throws (and the first calls of write let the output grow).
 */
public final class PseudoBoolean {
    private static final int VARIABLES = 12;
    private static final int LITERALS = 24;
    private static final int GREATEST_MASK = 4095;
    private static final int MOST_CONSTRAINTS = 60;
    private static final int MOST_LEVELS = 8;
    private static final int GREATEST_FACTOR = 1000;
    private static final int GREATEST_COST = 1000;
    private static final int BYTES_PER_FEED = 20;

    private final Text text = new Text();
    private final Reader reader = new Reader(text);
    private int positionOfError = -1;
    private final StringBuilder output = new StringBuilder();

    private final Constraint[] constraints = new Constraint[MOST_CONSTRAINTS];
    private int constraintsUsed = 0;
    private final Draft draft = new Draft();
    private final Constraint question = new Constraint();
    private final MaskSums sums = new MaskSums();

    private final LiteralList decisions = new LiteralList();
    private final Assignment assignment = new Assignment();
    private final LiteralList keptGroup = new LiteralList();
    private final LiteralList keptReason = new LiteralList();
    private final int[] costs = new int[VARIABLES];

    /** The models that each level had when the next one was opened; the last in use are the present ones. */
    private final ModelSet[] modelsOfLevel = new ModelSet[MOST_LEVELS + 1];
    private final int[] constraintsBelow = new int[MOST_LEVELS];
    private final LiteralList[] decisionsBelow = new LiteralList[MOST_LEVELS];
    private int levels = 0;

    /** Creates a solver without constraints, decisions, levels and costs. */
    public PseudoBoolean() {
        for (int i = 0; i < MOST_CONSTRAINTS; i++) {
            constraints[i] = new Constraint();
        }
        for (int i = 0; i <= MOST_LEVELS; i++) {
            modelsOfLevel[i] = new ModelSet();
        }
        for (int i = 0; i < MOST_LEVELS; i++) {
            decisionsBelow[i] = new LiteralList();
        }
    }

    // ---- texts

    /** Appends the four bytes of each parameter to the text buffer; returns its length. */
    public int feed(int a, int b, int c, int d, int e) throws IllegalStateException {
        if (text.length + BYTES_PER_FEED > Text.CAPACITY) {
            throw new IllegalStateException("the text buffer is full");
        }
        text.appendFourBytes(a);
        text.appendFourBytes(b);
        text.appendFourBytes(c);
        text.appendFourBytes(d);
        text.appendFourBytes(e);
        return text.length;
    }

    /** Shortens the text buffer to its first n bytes. */
    public int trim(int n) throws IllegalArgumentException {
        if (n < 0 || n > text.length) {
            throw new IllegalArgumentException("the text buffer does not have so many bytes");
        }
        text.length = n;
        return n;
    }

    /** Adds the constraint (or both of an equation) that the text buffer holds; returns the first number. */
    public int post() throws IllegalArgumentException, IllegalStateException {
        closeText(reader.readConstraint());
        requireRoom(reader.isEquation() ? 2 : 1);
        int number = constraintsUsed;
        if (reader.hasLowerBound()) {
            reader.draftLowerBound(draft);
            addDraft();
        }
        if (reader.hasUpperBound()) {
            reader.draftUpperBound(draft);
            addDraft();
        }
        return number;
    }

    /** Whether all models fulfill the constraint (or both of an equation) that the text buffer holds. */
    public boolean isImplied() throws IllegalArgumentException {
        closeText(reader.readConstraint());
        boolean implied = true;
        if (reader.hasLowerBound()) {
            reader.draftLowerBound(draft);
            implied = draftIsImplied();
        }
        if (implied && reader.hasUpperBound()) {
            reader.draftUpperBound(draft);
            implied = draftIsImplied();
        }
        return implied;
    }

    /** The position of the error in the text that was read last; -1 if there was none. */
    public int errorPosition() {
        return positionOfError;
    }

    /** Writes a constraint to the output; returns the number of its bytes. */
    public int write(int c) throws IndexOutOfBoundsException {
        requireConstraint(c);
        output.setLength(0);
        constraints[c].appendTo(output);
        return output.length();
    }

    /** A byte of the output. */
    public int outputByte(int i) throws IndexOutOfBoundsException {
        if (i < 0 || i >= output.length()) {
            throw new IndexOutOfBoundsException("no such byte of the output");
        }
        return output.charAt(i);
    }

    // ---- constraints

    /** The number of constraints. */
    public int constraintCount() {
        return constraintsUsed;
    }

    /** The number of terms of a constraint. */
    public int termCount(int c) throws IndexOutOfBoundsException {
        requireConstraint(c);
        return constraints[c].countTerms();
    }

    /** The degree of a constraint. */
    public int degree(int c) throws IndexOutOfBoundsException {
        requireConstraint(c);
        return constraints[c].degree;
    }

    /** The coefficient of a literal in a constraint; 0 if the constraint does not have it. */
    public int coefficient(int c, int literal) throws IndexOutOfBoundsException {
        requireConstraint(c);
        requireLiteral(literal);
        return constraints[c].coefficients[literal];
    }

    /** The slack of a constraint with the present values. */
    public long slack(int c) throws IndexOutOfBoundsException {
        requireConstraint(c);
        return constraints[c].slackWith(assignment);
    }

    /** How many literals of a constraint must be true; its number of terms plus 1 if all are too few. */
    public int cardinality(int c) throws IndexOutOfBoundsException {
        requireConstraint(c);
        return constraints[c].leastTrueLiterals();
    }

    // ---- cutting planes

    /** Adds the sum of two constraints. */
    public int sum(int c, int d)
            throws IndexOutOfBoundsException, IllegalStateException, ArithmeticException {
        requireConstraint(c);
        requireConstraint(d);
        requireRoom(1);
        draft.clear();
        draft.addTimes(constraints[c], 1);
        draft.addTimes(constraints[d], 1);
        return addBoundedDraft();
    }

    /** Adds a constraint times a factor of 1 to 1000. */
    public int multiple(int c, int factor)
            throws IndexOutOfBoundsException, IllegalArgumentException, IllegalStateException,
                    ArithmeticException {
        requireConstraint(c);
        if (factor < 1 || factor > GREATEST_FACTOR) {
            throw new IllegalArgumentException("the factor is not 1 to 1000");
        }
        requireRoom(1);
        draft.clear();
        draft.addTimes(constraints[c], factor);
        return addBoundedDraft();
    }

    /** Adds a constraint divided by a number, rounded up. */
    public int quotient(int c, int divisor)
            throws IndexOutOfBoundsException, IllegalArgumentException, IllegalStateException {
        requireConstraint(c);
        if (divisor < 1) {
            throw new IllegalArgumentException("the divisor is less than 1");
        }
        requireRoom(1);
        draft.clear();
        draft.addTimes(constraints[c], 1);
        draft.divideRoundingUp(divisor);
        return addDraft();
    }

    /** Adds a constraint in which no coefficient is greater than the degree. */
    public int saturation(int c) throws IndexOutOfBoundsException, IllegalStateException {
        requireConstraint(c);
        requireRoom(1);
        draft.clear();
        draft.addTimes(constraints[c], 1);
        draft.saturate();
        return addDraft();
    }

    /** Adds a constraint without the term of a variable. */
    public int weakening(int c, int variable)
            throws IndexOutOfBoundsException, IllegalArgumentException, IllegalStateException {
        requireConstraint(c);
        requireVariable(variable);
        if (!constraints[c].hasVariable(variable)) {
            throw new IllegalArgumentException("the constraint has no literal of the variable");
        }
        requireRoom(1);
        draft.clear();
        draft.addTimes(constraints[c], 1);
        draft.weaken(variable);
        return addDraft();
    }

    /** Adds the resolvent of two constraints that have opposite literals of a variable. */
    public int resolvent(int c, int d, int variable)
            throws IndexOutOfBoundsException, IllegalArgumentException, IllegalStateException,
                    ArithmeticException {
        requireConstraint(c);
        requireConstraint(d);
        requireVariable(variable);
        int literal = constraints[c].literalOf(variable);
        if (literal < 0 || constraints[d].coefficients[literal ^ 1] == 0) {
            throw new IllegalArgumentException("there are no opposite literals of the variable");
        }
        requireRoom(1);
        int p = constraints[c].coefficients[literal];
        int q = constraints[d].coefficients[literal ^ 1];
        int g = greatestCommonDivisor(p, q);
        draft.clear();
        draft.addTimes(constraints[c], q / g);
        draft.addTimes(constraints[d], p / g);
        return addBoundedDraft();
    }

    /** Adds the cardinality constraint that follows from a constraint. */
    public int cardinalityConstraint(int c)
            throws IndexOutOfBoundsException, IllegalStateException {
        requireConstraint(c);
        requireRoom(1);
        draft.clear();
        for (int literal = 0; literal < LITERALS; literal++) {
            if (constraints[c].coefficients[literal] > 0) {
                draft.addTerm(literal, 1);
            }
        }
        draft.degree = constraints[c].leastTrueLiterals();
        return addDraft();
    }

    // ---- exclusions

    /** Whether two literals exclude each other. */
    public boolean exclude(int first, int second) throws IndexOutOfBoundsException {
        requireLiteral(first);
        requireLiteral(second);
        return areExclusive(first, second);
    }

    /** Determines and keeps the group of a literal; returns its size. */
    public int group(int literal) throws IndexOutOfBoundsException {
        requireLiteral(literal);
        int members = 1 << literal;
        for (int other = 0; other < LITERALS; other++) {
            if (excludesAll(other, members)) {
                members |= 1 << other;
            }
        }
        keptGroup.setTo(members);
        return keptGroup.count;
    }

    /** A literal of the group that is kept. */
    public int groupLiteral(int index) throws IndexOutOfBoundsException {
        requireIndex(index, keptGroup);
        return keptGroup.literals[index];
    }

    /** Adds the constraint that at most one literal of the group that is kept is true. */
    public int addGroup() throws NoSuchElementException, IllegalStateException {
        // A group holds at least its own literal, so an empty list is no group.
        if (keptGroup.count == 0) {
            throw new NoSuchElementException("no group is kept");
        }
        requireRoom(1);
        draft.clear();
        for (int i = 0; i < keptGroup.count; i++) {
            draft.addTerm(keptGroup.literals[i] ^ 1, 1);
        }
        draft.degree = keptGroup.count - 1;
        return addDraft();
    }

    // ---- decisions

    /** Decides that a literal is true; returns how many variables have a value, or -1 for a conflict. */
    public int decide(int literal) throws IndexOutOfBoundsException, IllegalStateException {
        requireLiteral(literal);
        if (assignment.conflict || assignment.hasValue(literal >> 1)) {
            throw new IllegalStateException("the literal cannot be decided");
        }
        decisions.add(literal);
        propagate();
        if (assignment.conflict) {
            decisions.removeLast();
            propagate();
            return -1;
        }
        return assignment.countValues();
    }

    /** Takes back the latest decision; returns how many are left. */
    public int undo() throws IllegalStateException {
        if (decisions.count == 0) {
            throw new IllegalStateException("there are no decisions");
        }
        decisions.removeLast();
        propagate();
        return decisions.count;
    }

    /** The number of decisions. */
    public int decisionCount() {
        return decisions.count;
    }

    /** Whether there is a conflict. */
    public boolean isConflicting() {
        return assignment.conflict;
    }

    /** The value of a variable: 1, 0, or -1 if it has none. */
    public int value(int variable) throws IndexOutOfBoundsException {
        requireVariable(variable);
        return assignment.valueOf[variable];
    }

    // ---- models that have all decided literals

    /** The least model; -1 if there is none. */
    public int firstModel() {
        return models().leastFrom(0, decidedTrue(), decidedFalse());
    }

    /** The least model greater than a mask; -1 if there is none. */
    public int nextModel(int mask) throws IllegalArgumentException {
        if (!isMask(mask)) {
            throw new IllegalArgumentException("the mask is not 0 to 4095");
        }
        return models().leastFrom(mask + 1, decidedTrue(), decidedFalse());
    }

    /** The number of models. */
    public int modelCount() {
        return models().countWith(decidedTrue(), decidedFalse());
    }

    /** Whether a literal is true in all models. */
    public boolean isForced(int literal) throws IndexOutOfBoundsException {
        requireLiteral(literal);
        int bit = 1 << (literal >> 1);
        boolean negated = (literal & 1) == 1;
        return !hasModelWith(negated ? bit : 0, negated ? 0 : bit);
    }

    /** Sets the cost of a variable; returns its cost before. */
    public int setCost(int variable, int cost)
            throws IndexOutOfBoundsException, IllegalArgumentException {
        requireVariable(variable);
        if (cost < -GREATEST_COST || cost > GREATEST_COST) {
            throw new IllegalArgumentException("the cost is not -1000 to 1000");
        }
        int before = costs[variable];
        costs[variable] = cost;
        return before;
    }

    /** The least cost of a model. */
    public int leastCost() throws NoSuchElementException {
        int cheapest = findCheapest();
        // The sum of twelve costs is at most 12000, so the cast keeps it.
        return (int) sums.ofMask(cheapest);
    }

    /** The least of the models that have the least cost. */
    public int cheapestModel() throws NoSuchElementException {
        return findCheapest();
    }

    /** Finds and keeps a reason why some literals cannot all be true together with the decided ones. */
    public int explain(int yes, int no) throws IllegalArgumentException, NoSuchElementException {
        if (!isMask(yes) || !isMask(no) || (yes & no) != 0) {
            throw new IllegalArgumentException("these are not two masks without a common variable");
        }
        if (hasModelWith(yes, no)) {
            throw new NoSuchElementException("there is a model");
        }
        // No variable has both its literals in the reason: their order is that of the variables.
        int variablesLeft = yes | no;
        int members = 0;
        for (int variable = 0; variable < VARIABLES; variable++) {
            int bit = 1 << variable;
            if ((variablesLeft & bit) == 0) {
                continue;
            }
            int others = variablesLeft & ~bit;
            if (hasModelWith(yes & others, no & others)) {
                members |= 1 << (2 * variable + ((no & bit) == 0 ? 0 : 1));
            } else {
                variablesLeft = others;
            }
        }
        keptReason.setTo(members);
        return keptReason.count;
    }

    /** A literal of the reason that is kept. */
    public int reasonLiteral(int index) throws IndexOutOfBoundsException {
        requireIndex(index, keptReason);
        return keptReason.literals[index];
    }

    // ---- levels

    /** Opens a level; returns the number of levels. */
    public int push() throws IllegalStateException {
        if (levels >= MOST_LEVELS) {
            throw new IllegalStateException("there are 8 levels");
        }
        constraintsBelow[levels] = constraintsUsed;
        decisionsBelow[levels].copyFrom(decisions);
        modelsOfLevel[levels + 1].copyFrom(modelsOfLevel[levels]);
        levels++;
        return levels;
    }

    /** Closes the latest level; returns the number of levels. */
    public int pop() throws IllegalStateException {
        if (levels <= 0) {
            throw new IllegalStateException("there is no level");
        }
        levels--;
        constraintsUsed = constraintsBelow[levels];
        decisions.copyFrom(decisionsBelow[levels]);
        propagate();
        return levels;
    }

    /** A checksum of constraints, decisions, levels, values and costs. */
    public long digest() {
        long d = 41;
        d = d * 31 + constraintsUsed;
        d = d * 31 + decisions.count;
        d = d * 31 + levels;
        for (int c = 0; c < constraintsUsed; c++) {
            d = constraints[c].extendDigest(d);
        }
        for (int variable = 0; variable < VARIABLES; variable++) {
            d = d * 31 + assignment.valueOf[variable];
            d = d * 31 + costs[variable];
        }
        return d;
    }

    // ---- what the methods of the face require

    private void requireConstraint(int c) {
        if (c < 0 || c >= constraintsUsed) {
            throw new IndexOutOfBoundsException("no such constraint");
        }
    }

    private static void requireLiteral(int literal) {
        if (literal < 0 || literal >= LITERALS) {
            throw new IndexOutOfBoundsException("no such literal");
        }
    }

    private static void requireVariable(int variable) {
        if (variable < 0 || variable >= VARIABLES) {
            throw new IndexOutOfBoundsException("no such variable");
        }
    }

    private static void requireIndex(int index, LiteralList list) {
        if (index < 0 || index >= list.count) {
            throw new IndexOutOfBoundsException("no such index");
        }
    }

    private void requireRoom(int more) {
        if (constraintsUsed + more > MOST_CONSTRAINTS) {
            throw new IllegalStateException("there would be more than 60 constraints");
        }
    }

    private static boolean isMask(int mask) {
        return mask >= 0 && mask <= GREATEST_MASK;
    }

    /** Empties the text buffer, whether the text that was read is correct or not. */
    private void closeText(boolean correct) {
        positionOfError = correct ? -1 : reader.tokenStart;
        text.length = 0;
        if (!correct) {
            throw new IllegalArgumentException("the text is not a constraint");
        }
    }

    // ---- steps that the methods of the face share

    /** Adds the draft, for steps that can make too great a number. */
    private int addBoundedDraft() {
        draft.normalise();
        if (!draft.isInBounds()) {
            throw new ArithmeticException("a coefficient or the degree would be greater than 10^9");
        }
        return addDraft();
    }

    private int addDraft() {
        draft.normalise();
        int number = constraintsUsed;
        constraints[number].setTo(draft);
        constraintsUsed++;
        sums.setToFulfillment(constraints[number]);
        models().keepReaching(sums, constraints[number].degree);
        propagate();
        return number;
    }

    private boolean draftIsImplied() {
        draft.normalise();
        question.setTo(draft);
        sums.setToFulfillment(question);
        return models().allReach(sums, question.degree);
    }

    /** Derives the values anew, so that they never depend on the order of earlier calls. */
    private void propagate() {
        assignment.clear();
        for (int i = 0; i < decisions.count; i++) {
            assignment.makeTrue(decisions.literals[i]);
        }
        // Each round but the last gives a value to one variable at least.
        boolean changed = true;
        for (int round = 0; round <= VARIABLES && changed; round++) {
            changed = false;
            for (int c = 0; c < constraintsUsed && !assignment.conflict; c++) {
                if (constraints[c].propagateTo(assignment)) {
                    changed = true;
                }
            }
        }
    }

    private ModelSet models() {
        return modelsOfLevel[levels];
    }

    private int decidedTrue() {
        return decisions.variablesWithSign(0);
    }

    private int decidedFalse() {
        return decisions.variablesWithSign(1);
    }

    private boolean hasModelWith(int yes, int no) {
        return models().leastFrom(0, decidedTrue() | yes, decidedFalse() | no) >= 0;
    }

    /** The cheapest model; the sums are those of the costs afterwards. */
    private int findCheapest() {
        sums.setToCosts(costs);
        int cheapest = models().cheapest(sums, decidedTrue(), decidedFalse());
        if (cheapest < 0) {
            throw new NoSuchElementException("there is no model");
        }
        return cheapest;
    }

    private boolean areExclusive(int first, int second) {
        if (first >> 1 == second >> 1) {
            return first != second;
        }
        for (int c = 0; c < constraintsUsed; c++) {
            if (constraints[c].forbids(first, second)) {
                return true;
            }
        }
        return false;
    }

    /** Whether a literal excludes every member; a member does not, as no literal excludes itself. */
    private boolean excludesAll(int literal, int members) {
        for (int member = 0; member < LITERALS; member++) {
            if ((members >> member & 1) == 1 && !areExclusive(literal, member)) {
                return false;
            }
        }
        return true;
    }

    private static int greatestCommonDivisor(int p, int q) {
        int greater = p;
        int smaller = q;
        // Euclid's steps halve the numbers every second time, so 64 are more than enough for 31 bits.
        for (int step = 0; step < 64 && smaller != 0; step++) {
            int rest = greater % smaller;
            greater = smaller;
            smaller = rest;
        }
        return Math.max(1, greater);
    }

    /** The text buffer. */
    private static final class Text {
        static final int CAPACITY = 200;

        final int[] bytes = new int[CAPACITY];
        int length = 0;

        void appendFourBytes(int four) {
            for (int shift = 24; shift >= 0 && length < CAPACITY; shift -= 8) {
                bytes[length] = four >> shift & 255;
                length++;
            }
        }

        /** The byte at a position; -1 behind the last one. */
        int byteAt(int position) {
            return position >= 0 && position < length ? bytes[position] : -1;
        }
    }

    /** Reads a text as a constraint. If it has an error, this is at the start of the latest token. */
    private static final class Reader {
        private static final int END = 0;
        private static final int NO_TOKEN = 1;
        private static final int NUMBER = 2;
        private static final int LETTER = 3;
        private static final int PLUS = 4;
        private static final int MINUS = 5;
        private static final int TILDE = 6;
        private static final int AT_LEAST = 7;
        private static final int AT_MOST = 8;
        private static final int EQUAL = 9;
        private static final int MOST_DIGITS = 6;

        private final Text text;
        private int position;
        private int token;
        int tokenStart;
        private int number;
        private int variable;

        private final int[] coefficients = new int[LITERALS];
        private int relation;
        private int bound;

        Reader(Text text) {
            this.text = text;
        }

        boolean isEquation() {
            return relation == EQUAL;
        }

        boolean hasLowerBound() {
            return relation != AT_MOST;
        }

        boolean hasUpperBound() {
            return relation != AT_LEAST;
        }

        void draftLowerBound(Draft draft) {
            draftTimes(draft, 1);
        }

        void draftUpperBound(Draft draft) {
            draftTimes(draft, -1);
        }

        private void draftTimes(Draft draft, int sign) {
            draft.clear();
            draft.degree = sign * bound;
            for (int literal = 0; literal < LITERALS; literal++) {
                draft.addTerm(literal, sign * coefficients[literal]);
            }
        }

        /** Whether the text is a constraint. */
        boolean readConstraint() {
            Arrays.fill(coefficients, 0);
            position = 0;
            nextToken();
            return readSum() && readRelation() && readBound() && token == END;
        }

        private boolean readSum() {
            boolean correct = readTerm(skipMinus());
            // Every term takes a byte at least, so no text has more terms than bytes.
            for (int i = 0; i < Text.CAPACITY && correct; i++) {
                if (token != PLUS && token != MINUS) {
                    return true;
                }
                boolean negative = token == MINUS;
                nextToken();
                correct = readTerm(negative);
            }
            return correct;
        }

        private boolean readTerm(boolean negative) {
            int size = 1;
            if (token == NUMBER) {
                size = number;
                nextToken();
            }
            int sign = 0;
            if (token == TILDE) {
                sign = 1;
                nextToken();
            }
            if (token != LETTER) {
                return false;
            }
            coefficients[2 * variable + sign] += negative ? -size : size;
            nextToken();
            return true;
        }

        private boolean readRelation() {
            if (token != AT_LEAST && token != AT_MOST && token != EQUAL) {
                return false;
            }
            relation = token;
            nextToken();
            return true;
        }

        private boolean readBound() {
            boolean negative = skipMinus();
            if (token != NUMBER) {
                return false;
            }
            bound = negative ? -number : number;
            nextToken();
            return true;
        }

        private boolean skipMinus() {
            if (token != MINUS) {
                return false;
            }
            nextToken();
            return true;
        }

        private void nextToken() {
            while (position < Text.CAPACITY && text.byteAt(position) == ' ') {
                position++;
            }
            tokenStart = position;
            int c = text.byteAt(position);
            if (isDigit(c)) {
                takeNumber();
            } else if (c >= 'a' && c <= 'l') {
                variable = c - 'a';
                take(LETTER, 1);
            } else {
                takeSymbol(c);
            }
        }

        private void takeNumber() {
            int digits = 0;
            number = 0;
            while (position < Text.CAPACITY && isDigit(text.byteAt(position))) {
                // More digits are counted only: the number is an error then.
                if (digits < MOST_DIGITS) {
                    number = number * 10 + text.byteAt(position) - '0';
                }
                digits++;
                position++;
            }
            token = digits <= MOST_DIGITS ? NUMBER : NO_TOKEN;
        }

        private void takeSymbol(int c) {
            boolean beforeEqual = text.byteAt(position + 1) == '=';
            if (c < 0) {
                take(END, 0);
            } else if (c == '+') {
                take(PLUS, 1);
            } else if (c == '-') {
                take(MINUS, 1);
            } else if (c == '~') {
                take(TILDE, 1);
            } else if (c == '=') {
                take(EQUAL, 1);
            } else if (c == '>' && beforeEqual) {
                take(AT_LEAST, 2);
            } else if (c == '<' && beforeEqual) {
                take(AT_MOST, 2);
            } else {
                take(NO_TOKEN, 0);
            }
        }

        private void take(int kind, int length) {
            token = kind;
            position += length;
        }

        private static boolean isDigit(int c) {
            return c >= '0' && c <= '9';
        }
    }

    /** A constraint in normal form, with a coefficient for each literal: 0 if it does not have it. */
    private static final class Constraint {
        final int[] coefficients = new int[LITERALS];
        int degree = 0;
        private long total = 0;

        void setTo(Draft draft) {
            total = 0;
            for (int literal = 0; literal < LITERALS; literal++) {
                coefficients[literal] = (int) draft.coefficients[literal];
                total += coefficients[literal];
            }
            degree = (int) draft.degree;
        }

        int countTerms() {
            int terms = 0;
            for (int literal = 0; literal < LITERALS; literal++) {
                if (coefficients[literal] > 0) {
                    terms++;
                }
            }
            return terms;
        }

        /** The literal of a variable that has a term; -1 if there is none. */
        int literalOf(int variable) {
            int literal = 2 * variable;
            if (coefficients[literal] > 0) {
                return literal;
            }
            return coefficients[literal + 1] > 0 ? literal + 1 : -1;
        }

        boolean hasVariable(int variable) {
            return literalOf(variable) >= 0;
        }

        long slackWith(Assignment assignment) {
            long possible = total;
            for (int literal = 0; literal < LITERALS; literal++) {
                if (assignment.isFalse(literal)) {
                    possible -= coefficients[literal];
                }
            }
            return possible - degree;
        }

        /** Whether two true literals of different variables leave a negative slack. */
        boolean forbids(int first, int second) {
            return total - coefficients[first ^ 1] - coefficients[second ^ 1] < degree;
        }

        /** Makes a conflict, or all literals true that must be; whether a variable got a value. */
        boolean propagateTo(Assignment assignment) {
            long slack = slackWith(assignment);
            if (slack < 0) {
                assignment.clear();
                assignment.conflict = true;
                return false;
            }
            boolean changed = false;
            for (int literal = 0; literal < LITERALS; literal++) {
                if (coefficients[literal] > slack && !assignment.hasValue(literal >> 1)) {
                    assignment.makeTrue(literal);
                    changed = true;
                }
            }
            return changed;
        }

        int leastTrueLiterals() {
            long missing = degree;
            int taken = 0;
            int count = 0;
            for (int i = 0; i < LITERALS && missing > 0; i++) {
                int literal = greatestOutside(taken);
                if (literal < 0) {
                    return count + 1;
                }
                missing -= coefficients[literal];
                taken |= 1 << literal;
                count++;
            }
            return count;
        }

        /** The literal of the greatest term that is not taken; -1 if all terms are. */
        private int greatestOutside(int taken) {
            int greatest = -1;
            int size = 0;
            for (int literal = 0; literal < LITERALS; literal++) {
                if ((taken >> literal & 1) == 0 && coefficients[literal] > size) {
                    greatest = literal;
                    size = coefficients[literal];
                }
            }
            return greatest;
        }

        void appendTo(StringBuilder output) {
            int terms = 0;
            for (int literal = 0; literal < LITERALS; literal++) {
                if (coefficients[literal] > 0) {
                    if (terms > 0) {
                        output.append(" + ");
                    }
                    appendTermTo(output, literal);
                    terms++;
                }
            }
            if (terms == 0) {
                output.append('0');
            }
            output.append(" >= ");
            output.append(degree);
        }

        private void appendTermTo(StringBuilder output, int literal) {
            if (coefficients[literal] != 1) {
                output.append(coefficients[literal]);
            }
            if ((literal & 1) == 1) {
                output.append('~');
            }
            output.append((char) ('a' + (literal >> 1)));
        }

        long extendDigest(long before) {
            long d = before * 31 + degree;
            for (int literal = 0; literal < LITERALS; literal++) {
                if (coefficients[literal] > 0) {
                    d = d * 31 + literal;
                    d = d * 31 + coefficients[literal];
                }
            }
            return d;
        }
    }

    /** A constraint in the making, whose numbers can be greater than those of constraints. */
    private static final class Draft {
        private static final long GREATEST_NUMBER = 1000000000L;

        final long[] coefficients = new long[LITERALS];
        long degree = 0;

        void clear() {
            Arrays.fill(coefficients, 0);
            degree = 0;
        }

        void addTerm(int literal, long coefficient) {
            if (coefficient < 0) {
                coefficients[literal ^ 1] -= coefficient;
                degree -= coefficient;
            } else {
                coefficients[literal] += coefficient;
            }
        }

        void addTimes(Constraint constraint, long factor) {
            for (int literal = 0; literal < LITERALS; literal++) {
                coefficients[literal] += constraint.coefficients[literal] * factor;
            }
            degree += constraint.degree * factor;
        }

        void divideRoundingUp(long divisor) {
            long by = Math.max(1, divisor);
            for (int literal = 0; literal < LITERALS; literal++) {
                coefficients[literal] = (coefficients[literal] + by - 1) / by;
            }
            degree = (degree + by - 1) / by;
        }

        void saturate() {
            for (int literal = 0; literal < LITERALS; literal++) {
                coefficients[literal] = Math.min(coefficients[literal], degree);
            }
        }

        void weaken(int variable) {
            degree -= coefficients[2 * variable] + coefficients[2 * variable + 1];
            coefficients[2 * variable] = 0;
            coefficients[2 * variable + 1] = 0;
        }

        void normalise() {
            for (int literal = 0; literal < LITERALS; literal += 2) {
                long common = Math.min(coefficients[literal], coefficients[literal + 1]);
                coefficients[literal] -= common;
                coefficients[literal + 1] -= common;
                // Held at 0 at once: what a resolvent subtracts in all can be more than a long holds.
                degree = Math.max(0, degree - common);
            }
        }

        boolean isInBounds() {
            for (int literal = 0; literal < LITERALS; literal++) {
                if (coefficients[literal] > GREATEST_NUMBER) {
                    return false;
                }
            }
            return degree <= GREATEST_NUMBER;
        }
    }

    /** Some literals, in the order in which they were added. */
    private static final class LiteralList {
        final int[] literals = new int[LITERALS];
        int count = 0;

        void add(int literal) {
            if (count < LITERALS) {
                literals[count] = literal;
                count++;
            }
        }

        void removeLast() {
            if (count > 0) {
                count--;
            }
        }

        void copyFrom(LiteralList other) {
            System.arraycopy(other.literals, 0, literals, 0, LITERALS);
            count = other.count;
        }

        /** Makes this the list of the literals whose bits are set, in ascending order. */
        void setTo(int members) {
            count = 0;
            for (int literal = 0; literal < LITERALS; literal++) {
                if ((members >> literal & 1) == 1) {
                    add(literal);
                }
            }
        }

        /** The mask of the variables whose literals here are positive (sign 0) or negated (sign 1). */
        int variablesWithSign(int sign) {
            int mask = 0;
            for (int i = 0; i < count; i++) {
                if ((literals[i] & 1) == sign) {
                    mask |= 1 << (literals[i] >> 1);
                }
            }
            return mask;
        }
    }

    /** The values that follow from the decisions: 1, 0, or -1 where there is none. */
    private static final class Assignment {
        final int[] valueOf = new int[VARIABLES];
        boolean conflict = false;

        Assignment() {
            Arrays.fill(valueOf, -1);
        }

        void clear() {
            Arrays.fill(valueOf, -1);
            conflict = false;
        }

        boolean hasValue(int variable) {
            return valueOf[variable] >= 0;
        }

        /** A literal is false if its variable has the value that the literal's last bit has. */
        boolean isFalse(int literal) {
            return valueOf[literal >> 1] == (literal & 1);
        }

        void makeTrue(int literal) {
            valueOf[literal >> 1] = 1 - (literal & 1);
        }

        int countValues() {
            int values = 0;
            for (int variable = 0; variable < VARIABLES; variable++) {
                if (hasValue(variable)) {
                    values++;
                }
            }
            return values;
        }
    }

    /**
     * What each of the 4096 masks adds up to. It is held as one table for the lower six variables
     * and one for the upper six: two of 64 sums are made much faster than one of 4096.
     */
    private static final class MaskSums {
        private static final int HALF = 6;
        private static final int HALF_SIZE = 64;

        private final long[] lower = new long[HALF_SIZE];
        private final long[] upper = new long[HALF_SIZE];

        long ofMask(int mask) {
            return lower[mask & (HALF_SIZE - 1)] + upper[mask >> HALF & (HALF_SIZE - 1)];
        }

        /** Which of the 64 masks with these upper variables have at least a given sum, bit by bit. */
        long bitsReaching(int upperVariables, long least) {
            long needed = least - upper[upperVariables & (HALF_SIZE - 1)];
            long reached = 0;
            for (int lowerVariables = 0; lowerVariables < HALF_SIZE; lowerVariables++) {
                if (lower[lowerVariables] >= needed) {
                    reached |= 1L << lowerVariables;
                }
            }
            return reached;
        }

        void setToFulfillment(Constraint constraint) {
            lower[0] = 0;
            upper[0] = 0;
            for (int variable = 0; variable < VARIABLES; variable++) {
                long ifTrue = constraint.coefficients[2 * variable];
                long ifFalse = constraint.coefficients[2 * variable + 1];
                addVariable(variable, ifTrue, ifFalse);
            }
        }

        void setToCosts(int[] costs) {
            lower[0] = 0;
            upper[0] = 0;
            for (int variable = 0; variable < VARIABLES && variable < costs.length; variable++) {
                addVariable(variable, costs[variable], 0);
            }
        }

        /** Doubles the part of a table that is in use, so the variables must come in ascending order. */
        private void addVariable(int variable, long ifTrue, long ifFalse) {
            long[] table = variable < HALF ? lower : upper;
            int used = 1 << variable % HALF;
            for (int i = 0; i < used; i++) {
                table[i + used] = table[i] + ifTrue;
                table[i] += ifFalse;
            }
        }
    }

    /** A set of masks, with one bit each: the lower six variables choose the bit, the upper six the word. */
    private static final class ModelSet {
        private static final int WORDS = 64;
        private static final int BITS = 64;
        private static final int BIT_VARIABLES = 6;

        /** For each of the lower six variables, the bits whose masks contain it. */
        private static final long[] BITS_WITH_VARIABLE = {
            0xAAAAAAAAAAAAAAAAL,
            0xCCCCCCCCCCCCCCCCL,
            0xF0F0F0F0F0F0F0F0L,
            0xFF00FF00FF00FF00L,
            0xFFFF0000FFFF0000L,
            0xFFFFFFFF00000000L
        };

        private final long[] words = new long[WORDS];

        /** All masks, as without constraints each assignment is a model. */
        ModelSet() {
            Arrays.fill(words, -1L);
        }

        void copyFrom(ModelSet other) {
            System.arraycopy(other.words, 0, words, 0, WORDS);
        }

        void keepReaching(MaskSums sums, long least) {
            for (int word = 0; word < WORDS; word++) {
                words[word] &= sums.bitsReaching(word, least);
            }
        }

        boolean allReach(MaskSums sums, long least) {
            for (int word = 0; word < WORDS; word++) {
                if ((words[word] & ~sums.bitsReaching(word, least)) != 0) {
                    return false;
                }
            }
            return true;
        }

        /** The least mask from start on that has all variables of yes and none of no; -1 if there is none. */
        int leastFrom(int start, int yes, int no) {
            for (int word = Math.max(0, start / BITS); word < WORDS; word++) {
                long found = matching(word, yes, no);
                if (word == start / BITS) {
                    found &= -1L << start % BITS;
                }
                if (found != 0) {
                    long lowestBit = found & -found;
                    return word * BITS + Long.bitCount(lowestBit - 1);
                }
            }
            return -1;
        }

        int countWith(int yes, int no) {
            int count = 0;
            for (int word = 0; word < WORDS; word++) {
                count += Long.bitCount(matching(word, yes, no));
            }
            return count;
        }

        /** The least of the matching masks whose sum is the least; -1 if there is none. */
        int cheapest(MaskSums sums, int yes, int no) {
            int cheapest = -1;
            long least = 0;
            for (int word = 0; word < WORDS; word++) {
                long found = matching(word, yes, no);
                for (int bit = 0; bit < BITS && found != 0; bit++) {
                    long sum = sums.ofMask(word * BITS + bit);
                    if ((found >> bit & 1) == 1 && (cheapest < 0 || sum < least)) {
                        cheapest = word * BITS + bit;
                        least = sum;
                    }
                }
            }
            return cheapest;
        }

        /** The bits of a word whose masks are here and have all variables of yes and none of no. */
        private long matching(int word, int yes, int no) {
            if ((word & yes >> BIT_VARIABLES) != yes >> BIT_VARIABLES
                    || (word & no >> BIT_VARIABLES) != 0) {
                return 0;
            }
            long found = words[word];
            for (int variable = 0; variable < BIT_VARIABLES; variable++) {
                if ((yes >> variable & 1) == 1) {
                    found &= BITS_WITH_VARIABLE[variable];
                }
                if ((no >> variable & 1) == 1) {
                    found &= ~BITS_WITH_VARIABLE[variable];
                }
            }
            return found;
        }
    }
}
