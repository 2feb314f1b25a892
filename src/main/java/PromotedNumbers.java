/**
 * Works out expressions over whole numbers and fractions exactly. The document's promises say what each
 * call does; every row that a call needs is made once, in the constructor, so that calls make no objects.
 */
public final class PromotedNumbers {
    public static final int NONE = -1;

    private static final int TEXT_ROOM = 120;
    private static final int ROW_CHARACTERS = 8;
    private static final int VARIABLES = 8;
    private static final int MOST_OPEN = 12;
    private static final int HIGHEST_POWER = 64;

    /** With limbs of 30 bits a number below 2^240 is just one of at most 8 limbs. */
    private static final int LIMB_BITS = 30;
    private static final int BASE = 1 << LIMB_BITS;
    private static final int LIMB_MASK = BASE - 1;
    private static final int LIMBS = 8;
    /** A sum of two products has 17 limbs, and dividing needs one more. */
    private static final int WIDE_LIMBS = 18;

    /** The failures bear the document's numbers. */
    private static final int FINE = 0;
    private static final int TOO_LARGE = 1;
    private static final int DIVIDED_BY_ZERO = 2;
    private static final int UNFIT = 3;

    private static final String OPERATORS = "+*-/qrg^nd<=?";
    private static final int[] FEWEST = {0, 0, 1, 1, 2, 2, 0, 2, 1, 1, 2, 2, 3};
    /** 120 stands for any number: a text has no room for so many arguments. */
    private static final int[] MOST = {120, 120, 120, 120, 2, 2, 120, 2, 1, 1, 2, 2, 3};

    private final char[] text = new char[TEXT_ROOM];
    private int length;
    private int foundFault = NONE;
    private final Fraction result = new Fraction();
    private final Writing writing = new Writing();
    private final Grammar grammar = new Grammar();
    private final Machine machine = new Machine();

    public PromotedNumbers() {
    }

    public boolean type(long row) {
        int count = 0;
        while (count < ROW_CHARACTERS && characterOf(row, count) != 0) {
            int c = characterOf(row, count);
            if (c < 32 || c > 126) {
                return false;
            }
            count++;
        }
        if (length + count > TEXT_ROOM) {
            return false;
        }
        for (int i = 0; i < count; i++) {
            text[length + i] = (char) characterOf(row, i);
        }
        length += count;
        return true;
    }

    public int erase() {
        int had = length;
        length = 0;
        return had;
    }

    public int fault() {
        return foundFault;
    }

    public int work() throws IllegalArgumentException, UnsupportedOperationException, ArithmeticException,
            IllegalStateException {
        requireExpression();
        refuse(machine.workOut(text, length));
        return settle(machine.value());
    }

    public int keep(int v) throws IndexOutOfBoundsException, IllegalArgumentException,
            UnsupportedOperationException, ArithmeticException, IllegalStateException {
        requireVariable(v);
        requireExpression();
        refuse(machine.workOut(text, length));
        machine.variables[v].copy(machine.value());
        length = 0;
        return settle(machine.value());
    }

    public int form() {
        return result.kind();
    }

    public int sign() {
        return result.side();
    }

    public char digit(int i) {
        return writing.character(i);
    }

    public int bits(int part, int i) {
        return part == 0 ? result.n.word(i) : result.d.word(i);
    }

    public int against(int v) throws IndexOutOfBoundsException {
        requireVariable(v);
        return machine.calculator.compare(result, machine.variables[v]);
    }

    public int fetch(int v) throws IndexOutOfBoundsException {
        requireVariable(v);
        return settle(machine.variables[v]);
    }

    private static int characterOf(long row, int i) {
        return (int) (row >>> (8 * i)) & 255;
    }

    private static void requireVariable(int v) {
        if (v < 0 || v >= VARIABLES) {
            throw new IndexOutOfBoundsException();
        }
    }

    private void requireExpression() {
        foundFault = grammar.faultOf(text, length);
        if (foundFault != NONE) {
            throw new IllegalArgumentException();
        }
    }

    private static void refuse(int failure) {
        if (failure == TOO_LARGE) {
            throw new UnsupportedOperationException();
        }
        if (failure == DIVIDED_BY_ZERO) {
            throw new ArithmeticException();
        }
        if (failure == UNFIT) {
            throw new IllegalStateException();
        }
    }

    private int settle(Fraction value) {
        result.copy(value);
        writing.write(result);
        return result.kind();
    }

    private static boolean isDigit(char c) {
        return c >= '0' && c <= '9';
    }

    private static boolean isVariable(char c) {
        return c >= 'a' && c < 'a' + VARIABLES;
    }

    /** A whole number of 0 or more, its lowest limb first; the highest limb in use is never 0. */
    private static final class Whole {
        private final int[] limbs;
        private int size;

        Whole(int room) {
            limbs = new int[room];
        }

        /** Only for 0 and numbers below BASE. */
        void become(int small) {
            limbs[0] = small;
            size = small == 0 ? 0 : 1;
        }

        void copy(Whole other) {
            size = other.size;
            System.arraycopy(other.limbs, 0, limbs, 0, size);
        }

        boolean isZero() {
            return size == 0;
        }

        boolean isOne() {
            return size == 1 && limbs[0] == 1;
        }

        boolean isTooLarge() {
            return size > LIMBS;
        }

        int limb(int i) {
            return i >= 0 && i < size ? limbs[i] : 0;
        }

        /** Bits 32 * i .. 32 * i + 31; below bit 240 they begin at most 14 bits into a limb, so two hold them. */
        int word(int i) {
            if (i < 0 || i >= LIMBS) {
                return 0;
            }
            int low = 32 * i / LIMB_BITS;
            long joined = limb(low) | (long) limb(low + 1) << LIMB_BITS;
            return (int) (joined >>> (32 * i % LIMB_BITS));
        }

        int compare(Whole other) {
            if (size != other.size) {
                return size < other.size ? -1 : 1;
            }
            for (int i = size - 1; i >= 0; i--) {
                if (limbs[i] != other.limbs[i]) {
                    return limbs[i] < other.limbs[i] ? -1 : 1;
                }
            }
            return 0;
        }

        void add(Whole other) {
            int reach = Math.max(size, other.size);
            int carry = 0;
            for (int i = 0; i < reach; i++) {
                int sum = (i < size ? limbs[i] : 0) + (i < other.size ? other.limbs[i] : 0) + carry;
                limbs[i] = sum & LIMB_MASK;
                carry = sum >>> LIMB_BITS;
            }
            size = reach;
            if (carry != 0) {
                limbs[size] = carry;
                size++;
            }
        }

        /** Only for another that is not more than this. */
        void subtract(Whole other) {
            int borrow = 0;
            for (int i = 0; i < size; i++) {
                int left = limbs[i] - (i < other.size ? other.limbs[i] : 0) - borrow;
                limbs[i] = left & LIMB_MASK;
                borrow = left < 0 ? 1 : 0;
            }
            cutTo(size);
        }

        void becomeProduct(Whole x, Whole y) {
            for (int i = 0; i < x.size + y.size; i++) {
                limbs[i] = 0;
            }
            for (int i = 0; i < x.size; i++) {
                long factor = x.limbs[i];
                long carry = 0;
                for (int k = 0; k < y.size; k++) {
                    long sum = factor * y.limbs[k] + limbs[i + k] + carry;
                    limbs[i + k] = (int) (sum & LIMB_MASK);
                    carry = sum >>> LIMB_BITS;
                }
                limbs[i + y.size] = (int) carry;
            }
            cutTo(x.size + y.size);
        }

        /** Only for a factor of 1 .. BASE and an addend below BASE. */
        void timesPlus(int factor, int addend) {
            long carry = addend;
            for (int i = 0; i < size; i++) {
                long sum = (long) limbs[i] * factor + carry;
                limbs[i] = (int) (sum & LIMB_MASK);
                carry = sum >>> LIMB_BITS;
            }
            if (carry != 0) {
                limbs[size] = (int) carry;
                size++;
            }
        }

        /** Answers what is left; only for a divisor of 1 .. BASE. */
        int divideBy(int divisor) {
            long left = 0;
            for (int i = size - 1; i >= 0; i--) {
                long part = left << LIMB_BITS | limbs[i];
                limbs[i] = (int) (part / divisor);
                left = part % divisor;
            }
            cutTo(size);
            return (int) left;
        }

        /** Divides by 2 as long as nothing is left, and answers how many times; only for a number above 0. */
        int dropTwos() {
            int zeros = 0;
            while (zeros < size - 1 && limbs[zeros] == 0) {
                zeros++;
            }
            int lowest = limbs[zeros] & -limbs[zeros];
            int shift = Integer.bitCount(lowest - 1);
            for (int i = zeros; i < size; i++) {
                int above = i + 1 < size ? limbs[i + 1] : 0;
                limbs[i - zeros] = limbs[i] >>> shift | above << (LIMB_BITS - shift) & LIMB_MASK;
            }
            cutTo(size - zeros);
            return zeros * LIMB_BITS + shift;
        }

        void cutTo(int reach) {
            size = reach;
            while (size > 0 && limbs[size - 1] == 0) {
                size--;
            }
        }
    }

    /** A number: in lowest terms, and never below 0 when it is 0, so that every value has one form. */
    private static final class Fraction {
        private final Whole n = new Whole(LIMBS);
        private final Whole d = new Whole(LIMBS);
        private boolean below;

        Fraction() {
            d.become(1);
        }

        void become(int small) {
            n.become(small);
            d.become(1);
            below = false;
        }

        void copy(Fraction other) {
            n.copy(other.n);
            d.copy(other.d);
            below = other.below;
        }

        boolean isWhole() {
            return d.isOne();
        }

        boolean isZero() {
            return n.isZero();
        }

        int side() {
            return below ? -1 : isZero() ? 0 : 1;
        }

        int kind() {
            if (!isWhole()) {
                return 2;
            }
            boolean small = n.size < 3 || n.size == 3 && n.limbs[2] < 1 << (62 - 2 * LIMB_BITS);
            return small ? 0 : 1;
        }
    }

    /** Divides whole numbers and finds their greatest common divisor, in rows of its own. */
    private static final class Divider {
        /** Each step takes a bit or more off two numbers of 481 and 240 bits. */
        private static final int MOST_STEPS = 1000;

        private final Whole rest = new Whole(WIDE_LIMBS);
        private final Whole scaled = new Whole(WIDE_LIMBS);
        private final Whole first = new Whole(WIDE_LIMBS);
        private final Whole second = new Whole(WIDE_LIMBS);

        /** Puts x divided by y, towards 0, into quotient, and what is left into rest; only for y above 0. */
        void divide(Whole x, Whole y, Whole quotient) {
            rest.copy(x);
            quotient.become(0);
            if (y.isZero() || x.compare(y) < 0) {
                return;
            }
            // Once the divisor's highest limb is BASE / 2 or more, what it guesses for a limb of the
            // quotient is at most 2 too high.
            int factor = BASE / (y.limbs[y.size - 1] + 1);
            scaled.copy(y);
            scaled.timesPlus(factor, 0);
            rest.limbs[x.size] = 0;
            rest.timesPlus(factor, 0);
            for (int shift = x.size - y.size; shift >= 0; shift--) {
                quotient.limbs[shift] = takeAway(shift);
            }
            quotient.cutTo(x.size - y.size + 1);
            rest.cutTo(y.size);
            rest.divideBy(factor);
        }

        /** Takes scaled, moved up by shift limbs, from rest as often as it goes, and answers how often. */
        private int takeAway(int shift) {
            int head = shift + scaled.size;
            long ahead = (long) rest.limbs[head] << LIMB_BITS | rest.limbs[head - 1];
            long times = Math.min(ahead / scaled.limbs[scaled.size - 1], LIMB_MASK);
            long carry = 0;
            for (int i = 0; i < scaled.size; i++) {
                long left = rest.limbs[shift + i] - times * scaled.limbs[i] + carry;
                rest.limbs[shift + i] = (int) (left & LIMB_MASK);
                carry = left >> LIMB_BITS;
            }
            carry += rest.limbs[head];
            for (int tooMany = 0; tooMany < 2 && carry < 0; tooMany++) {
                carry += putBack(shift);
                times--;
            }
            return (int) times;
        }

        private int putBack(int shift) {
            int carry = 0;
            for (int i = 0; i < scaled.size; i++) {
                int sum = rest.limbs[shift + i] + scaled.limbs[i] + carry;
                rest.limbs[shift + i] = sum & LIMB_MASK;
                carry = sum >>> LIMB_BITS;
            }
            return carry;
        }

        /** Puts the greatest number that divides both into found; 0 when both are 0. */
        void findGreatest(Whole x, Whole y, Whole found) {
            if (x.isZero() || y.isZero()) {
                found.copy(x.isZero() ? y : x);
                return;
            }
            Whole more = first;
            Whole less = second;
            more.copy(x);
            less.copy(y);
            int twos = Math.min(more.dropTwos(), less.dropTwos());
            for (int step = 0; step < MOST_STEPS; step++) {
                int order = more.compare(less);
                if (order < 0) {
                    Whole other = more;
                    more = less;
                    less = other;
                }
                if (order == 0 || less.isOne()) {
                    break;
                }
                more.subtract(less);
                more.dropTwos();
            }
            found.copy(less);
            for (int left = twos; left > 0; left -= LIMB_BITS) {
                found.timesPlus(1 << Math.min(left, LIMB_BITS), 0);
            }
        }
    }

    /** Does one step with a total and another number; answers how it fails, and then leaves the total alone. */
    private static final class Calculator {
        private final Divider divider = new Divider();
        private final Whole common = new Whole(WIDE_LIMBS);
        private final Whole ownShare = new Whole(WIDE_LIMBS);
        private final Whole otherShare = new Whole(WIDE_LIMBS);
        private final Whole top = new Whole(WIDE_LIMBS);
        private final Whole bottom = new Whole(WIDE_LIMBS);
        private final Whole spare = new Whole(WIDE_LIMBS);

        /** Adds other; turned, its opposite. */
        int add(Fraction total, Fraction other, boolean turned) {
            divider.findGreatest(total.d, other.d, common);
            divider.divide(total.d, common, ownShare);
            divider.divide(other.d, common, otherShare);
            top.becomeProduct(total.n, otherShare);
            spare.becomeProduct(other.n, ownShare);
            boolean below = addSpare(total.below, other.below != turned);
            // Only what divides both the sum and the common part can still be cut, so that no number
            // of more than 8 limbs has to be cut by another one.
            divider.findGreatest(top, common, spare);
            divider.divide(other.d, spare, otherShare);
            bottom.becomeProduct(ownShare, otherShare);
            divider.divide(top, spare, common);
            return settleAt(total, below, common);
        }

        /** Adds spare to top, each with its sign, and answers whether the sum is below 0. */
        private boolean addSpare(boolean topBelow, boolean spareBelow) {
            if (topBelow == spareBelow) {
                top.add(spare);
                return topBelow;
            }
            if (top.compare(spare) >= 0) {
                top.subtract(spare);
                return topBelow;
            }
            spare.subtract(top);
            top.copy(spare);
            return spareBelow;
        }

        /** Multiplies with n / d, or with its opposite when that is below 0. */
        int multiply(Fraction total, Whole n, Whole d, boolean below) {
            divider.findGreatest(total.n, d, common);
            divider.divide(total.n, common, ownShare);
            divider.divide(d, common, otherShare);
            divider.findGreatest(n, total.d, common);
            divider.divide(n, common, spare);
            top.becomeProduct(ownShare, spare);
            divider.divide(total.d, common, spare);
            bottom.becomeProduct(otherShare, spare);
            return settleAt(total, total.below != below, top);
        }

        /** Makes the total the whole part of total / other or, if so asked, what is left then. */
        int divideWhole(Fraction total, Fraction other, boolean wantsRest) {
            if (!total.isWhole() || !other.isWhole()) {
                return UNFIT;
            }
            if (other.isZero()) {
                return DIVIDED_BY_ZERO;
            }
            divider.divide(total.n, other.n, top);
            bottom.become(1);
            if (wantsRest) {
                return settleAt(total, total.below, divider.rest);
            }
            return settleAt(total, total.below != other.below, top);
        }

        int joinGreatest(Fraction total, Fraction other) {
            if (!other.isWhole()) {
                return UNFIT;
            }
            divider.findGreatest(total.n, other.n, top);
            bottom.become(1);
            return settleAt(total, false, top);
        }

        int compare(Fraction one, Fraction other) {
            if (one.below != other.below) {
                return one.below ? -1 : 1;
            }
            top.becomeProduct(one.n, other.d);
            bottom.becomeProduct(other.n, one.d);
            return one.below ? bottom.compare(top) : top.compare(bottom);
        }

        /** The total becomes n / bottom, which is in lowest terms, unless that is too large. */
        private int settleAt(Fraction total, boolean below, Whole n) {
            if (n.isTooLarge() || bottom.isTooLarge()) {
                return TOO_LARGE;
            }
            total.n.copy(n);
            total.d.copy(bottom);
            total.below = below && !n.isZero();
            return FINE;
        }
    }

    /** Tells where a text stops being one that can still become an expression. */
    private static final class Grammar {
        private static final int AT_EXPRESSION = 0;
        private static final int AT_OPERATOR = 1;
        private static final int BEHIND_MINUS = 2;
        private static final int BEHIND_DIGIT = 3;
        private static final int BEHIND_PART = 4;
        private static final int WRONG = 5;

        private final int[] operators = new int[MOST_OPEN];
        private final int[] arguments = new int[MOST_OPEN];
        private int open;

        int faultOf(char[] text, int length) {
            open = 0;
            int state = AT_EXPRESSION;
            for (int place = 0; place < length; place++) {
                state = behind(state, text[place]);
                if (state == WRONG) {
                    return place;
                }
            }
            boolean whole = open == 0 && (state == BEHIND_DIGIT || state == BEHIND_PART);
            return whole ? NONE : length;
        }

        private int behind(int state, char c) {
            switch (state) {
                case AT_EXPRESSION:
                    return behindStart(c);
                case AT_OPERATOR:
                    return behindOperator(c);
                case BEHIND_MINUS:
                    return isDigit(c) ? BEHIND_DIGIT : WRONG;
                case BEHIND_DIGIT:
                    return isDigit(c) ? BEHIND_DIGIT : behindPart(c);
                default:
                    return behindPart(c);
            }
        }

        private int behindStart(char c) {
            if (isDigit(c)) {
                return BEHIND_DIGIT;
            }
            if (isVariable(c)) {
                return BEHIND_PART;
            }
            if (c == '-') {
                return BEHIND_MINUS;
            }
            return c == '(' && open < MOST_OPEN ? AT_OPERATOR : WRONG;
        }

        private int behindOperator(char c) {
            int operator = OPERATORS.indexOf(c);
            if (operator < 0) {
                return WRONG;
            }
            operators[open] = operator;
            arguments[open] = 0;
            open++;
            return BEHIND_PART;
        }

        /** What may stand behind an operator or an argument. */
        private int behindPart(char c) {
            if (open == 0) {
                return WRONG;
            }
            int operator = operators[open - 1];
            int count = arguments[open - 1];
            if (c == ' ' && count < MOST[operator]) {
                arguments[open - 1]++;
                return AT_EXPRESSION;
            }
            if (c == ')' && count >= FEWEST[operator]) {
                open--;
                return BEHIND_PART;
            }
            return WRONG;
        }
    }

    /** Works out texts that are expressions, with the values of open brackets' arguments on a stack. */
    private static final class Machine {
        /** Each argument takes a blank and a character more. */
        private static final int MOST_VALUES = TEXT_ROOM / 2;

        private final Calculator calculator = new Calculator();
        private final Fraction[] variables = new Fraction[VARIABLES];
        private final Fraction[] values = new Fraction[MOST_VALUES];
        private final Fraction total = new Fraction();
        private final Whole number = new Whole(WIDE_LIMBS);
        private final char[] operators = new char[MOST_OPEN];
        private final int[] firstValues = new int[MOST_OPEN];
        private final int[] arguments = new int[MOST_OPEN];
        private int open;
        private int held;

        Machine() {
            for (int v = 0; v < VARIABLES; v++) {
                variables[v] = new Fraction();
            }
            for (int i = 0; i < MOST_VALUES; i++) {
                values[i] = new Fraction();
            }
        }

        Fraction value() {
            return values[0];
        }

        /** Answers how the text fails; value() is its value if it does not. */
        int workOut(char[] text, int length) {
            open = 0;
            held = 0;
            int failure = FINE;
            int next = 0;
            for (int place = 0; place < length && failure == FINE; place++) {
                char c = text[place];
                if (place < next) {
                    continue;
                }
                if (c == '(') {
                    openBracket(text[place + 1]);
                    next = place + 2;
                } else if (c == ')') {
                    failure = operators[open - 1] == '^' ? raise() : fold();
                    closeBracket();
                } else if (c == ' ') {
                    next = skipsArgument() ? endOfArgument(text, place + 1, length) : place + 1;
                } else if (isVariable(c)) {
                    values[held].copy(variables[c - 'a']);
                    held++;
                } else {
                    next = endOfArgument(text, place, length);
                    failure = takeNumber(text, place, next);
                }
            }
            return failure;
        }

        private void openBracket(char operator) {
            operators[open] = operator;
            firstValues[open] = held;
            arguments[open] = 0;
            open++;
        }

        private void closeBracket() {
            open--;
            values[firstValues[open]].copy(total);
            held = firstValues[open] + 1;
        }

        /** Counts the argument that comes now; of ? one of the last two is not worked out. */
        private boolean skipsArgument() {
            int before = arguments[open - 1];
            arguments[open - 1]++;
            if (operators[open - 1] != '?' || before == 0) {
                return false;
            }
            boolean choosesThird = values[firstValues[open - 1]].isZero();
            return choosesThird == (before == 1);
        }

        private int endOfArgument(char[] text, int from, int length) {
            int inside = 0;
            for (int place = from; place < length; place++) {
                char c = text[place];
                if (inside == 0 && (c == ' ' || c == ')')) {
                    return place;
                }
                if (c == '(') {
                    inside++;
                } else if (c == ')') {
                    inside--;
                }
            }
            return length;
        }

        private int takeNumber(char[] text, int from, int end) {
            boolean below = text[from] == '-';
            number.become(0);
            for (int place = below ? from + 1 : from; place < end; place++) {
                number.timesPlus(10, text[place] - '0');
                if (number.isTooLarge()) {
                    return TOO_LARGE;
                }
            }
            Fraction value = values[held];
            value.become(0);
            value.n.copy(number);
            value.below = below && !number.isZero();
            held++;
            return FINE;
        }

        private int raise() {
            Fraction base = values[held - 2];
            Fraction power = values[held - 1];
            int times = power.n.limb(0);
            if (!power.isWhole() || power.below || power.n.size > 1 || times > HIGHEST_POWER) {
                return UNFIT;
            }
            int failure = FINE;
            total.become(1);
            for (int i = 0; i < times && failure == FINE; i++) {
                failure = calculator.multiply(total, base.n, base.d, base.below);
            }
            return failure;
        }

        private int fold() {
            char operator = operators[open - 1];
            int from = firstValues[open - 1];
            boolean beginsWithFirst = beginsWithFirst(operator, held - from);
            if (beginsWithFirst) {
                total.copy(values[from]);
            } else {
                total.become(operator == '*' || operator == '/' ? 1 : 0);
            }
            int failure = FINE;
            for (int i = beginsWithFirst ? from + 1 : from; i < held && failure == FINE; i++) {
                failure = step(operator, values[i]);
            }
            return failure;
        }

        private static boolean beginsWithFirst(char operator, int count) {
            boolean anyNumber = operator == '+' || operator == '*' || operator == 'g';
            return count > 1 && !anyNumber;
        }

        private int step(char operator, Fraction other) {
            switch (operator) {
                case '+':
                    return calculator.add(total, other, false);
                case '-':
                    return calculator.add(total, other, true);
                case '*':
                    return calculator.multiply(total, other.n, other.d, other.below);
                case '/':
                    return other.isZero() ? DIVIDED_BY_ZERO
                            : calculator.multiply(total, other.d, other.n, other.below);
                case 'q':
                    return calculator.divideWhole(total, other, false);
                case 'r':
                    return calculator.divideWhole(total, other, true);
                case 'g':
                    return calculator.joinGreatest(total, other);
                default:
                    return replace(operator, other);
            }
        }

        /** The operators that can't fail. */
        private int replace(char operator, Fraction other) {
            switch (operator) {
                case 'n':
                    total.copy(other);
                    total.d.become(1);
                    break;
                case 'd':
                    total.become(0);
                    total.n.copy(other.d);
                    break;
                case '<':
                    total.become(calculator.compare(total, other) < 0 ? 1 : 0);
                    break;
                case '=':
                    total.become(calculator.compare(total, other) == 0 ? 1 : 0);
                    break;
                default:
                    total.copy(other);
                    break;
            }
            return FINE;
        }
    }

    /** A number written out; its row is filled from the end, as the last digit comes first. */
    private static final class Writing {
        /** A number below 2^240 has at most 73 digits. */
        private static final int MOST_DIGITS = 73;
        private static final int ROOM = 2 * MOST_DIGITS + 2;

        private final char[] row = new char[ROOM];
        private final Whole left = new Whole(LIMBS);
        private int start = ROOM - 1;

        Writing() {
            row[start] = '0';
        }

        void write(Fraction value) {
            start = ROOM;
            if (!value.isWhole()) {
                putAmount(value.d);
                put('/');
            }
            putAmount(value.n);
            if (value.below) {
                put('-');
            }
        }

        char character(int i) {
            return i >= 0 && i < ROOM - start ? row[start + i] : 0;
        }

        private void putAmount(Whole amount) {
            left.copy(amount);
            put((char) ('0' + left.divideBy(10)));
            for (int i = 1; i < MOST_DIGITS && !left.isZero(); i++) {
                put((char) ('0' + left.divideBy(10)));
            }
        }

        private void put(char c) {
            start--;
            row[start] = c;
        }
    }
}
