import java.math.BigInteger;
import java.util.ArrayList;
import java.util.Arrays;
import java.util.List;
import java.util.Random;

/**
 * Holds the class against a second reading of the document, over BigInteger, in long runs of calls
 * that a fixed seed draws: every answer, and all that can be seen of the state behind it.
 */
public final class OracleTest {
    private static final int RUNS = 24000;
    private static final int MOST_CALLS = 512;
    /** A step may type 120 characters, and looking at all that can be seen reads up to 148 digits. */
    private static final int CALLS_OF_A_STEP = 200;
    private static final String OPERATORS = "+*-/qrg^nd<=?";

    private final Random random;
    private final PromotedNumbers program = new PromotedNumbers();
    private final Oracle oracle = new Oracle();
    private int calls;

    private OracleTest(long seed) {
        random = new Random(seed);
    }

    public static void main(String[] args) {
        for (int run = 0; run < RUNS; run++) {
            OracleTest test = new OracleTest(run);
            test.fillVariables("run " + run);
            while (test.calls + CALLS_OF_A_STEP <= MOST_CALLS) {
                test.step("run " + run + ", from call " + test.calls);
            }
        }
        Check.end();
    }

    private void fillVariables(String where) {
        for (int v = random.nextInt(8); v < 8; v++) {
            retype(where, expression(1 + random.nextInt(2)));
            Check.due(where + ": keep " + v, Check.keep(program, v), oracle.keep(v));
            calls++;
        }
    }

    private void step(String where) {
        int kind = random.nextInt(20);
        calls++;
        if (kind < 1) {
            Check.due(where + ": erase", program.erase(), oracle.erase());
        } else if (kind < 2) {
            typeRaw(where);
        } else if (kind < 3) {
            int v = random.nextInt(11) - 1;
            Check.due(where + ": fetch " + v, Check.fetch(program, v), oracle.fetch(v));
        } else {
            int depth = random.nextInt(8) == 0 ? 13 : 1 + random.nextInt(4);
            String text = expression(depth);
            text = random.nextInt(4) == 0 ? spoilt(text) : text;
            retype(where, text);
            workOrKeep(where + ", " + oracle.text);
        }
        compare(where + ", " + oracle.text);
    }

    private void retype(String where, String text) {
        if (text.length() <= 120) {
            Check.due(where + ": erase", program.erase(), oracle.erase());
            Check.due(where + ": type", Check.type(program, text), oracle.type(text));
            calls += 1 + (text.length() + 7) / 8;
        }
    }

    private void typeRaw(String where) {
        long row = Check.row("(+ 1 a)2".substring(0, 1 + random.nextInt(8)));
        if (random.nextInt(3) == 0) {
            row ^= (long) random.nextInt(256) << (8 * random.nextInt(8));
        }
        Check.due(where + ": type " + row, program.type(row), oracle.typeRow(row));
    }

    private void workOrKeep(String where) {
        if (random.nextInt(3) == 0) {
            int v = random.nextInt(20) == 0 ? 8 - 9 * random.nextInt(2) : random.nextInt(8);
            Check.due(where + ": keep " + v, Check.keep(program, v), oracle.keep(v));
        } else {
            Check.due(where + ": work", Check.work(program), oracle.work());
        }
    }

    private void compare(String where) {
        Check.due(where + ": fault", program.fault(), oracle.fault);
        Check.due(where + ": form", program.form(), oracle.result.form());
        Check.due(where + ": sign", program.sign(), oracle.result.n.signum());
        Check.due(where + ": digits", Check.written(program), oracle.result.toString());
        for (int i = -1; i < 10; i++) {
            Check.due(where + ": bits 0 " + i, program.bits(0, i), bitsOf(oracle.result.n.abs(), i));
            Check.due(where + ": bits 1 " + i, program.bits(1, i), bitsOf(oracle.result.d, i));
        }
        for (int v = 0; v < 8; v++) {
            Check.due(where + ": against " + v, program.against(v), oracle.result.compareTo(oracle.variables[v]));
        }
        calls += 3 + oracle.result.toString().length() + 1 + 22 + 8;
    }

    private static int bitsOf(BigInteger amount, int i) {
        return i < 0 ? 0 : amount.shiftRight(32 * i).intValue();
    }

    private String expression(int depth) {
        int kind = random.nextInt(10);
        if (depth == 0 || kind == 0) {
            return random.nextInt(3) == 0 ? number() : String.valueOf((char) ('a' + random.nextInt(8)));
        }
        char operator = OPERATORS.charAt(random.nextInt(random.nextInt(3) == 0 ? OPERATORS.length() : 4));
        StringBuilder text = new StringBuilder("(").append(operator);
        int count = Oracle.fewest(operator);
        count += random.nextInt(Math.min(3, Oracle.most(operator) - count) + 1);
        for (int i = 0; i < count; i++) {
            boolean power = operator == '^' && i == 1 && random.nextInt(4) != 0;
            boolean shallow = depth > 4 && i > 0;
            text.append(' ').append(power ? String.valueOf(random.nextInt(8)) : expression(shallow ? 0 : depth - 1));
        }
        return text.append(')').toString();
    }

    private String number() {
        int kind = random.nextInt(6);
        String sign = random.nextInt(3) == 0 ? "-" : "";
        if (kind < 2) {
            return sign + random.nextInt(10);
        }
        if (kind == 2) {
            return sign + Check.power(30 * (1 + random.nextInt(8)), random.nextInt(3) - 1);
        }
        if (kind == 3) {
            BigInteger power = BigInteger.ONE.shiftLeft(random.nextInt(242));
            return sign + power.subtract(BigInteger.ONE.shiftLeft(random.nextInt(100))).abs();
        }
        return sign + new BigInteger(1 + random.nextInt(kind == 4 ? 240 : 70), random);
    }

    private String spoilt(String text) {
        String characters = "+*-/qrg^nd<=?() 019aehi~";
        StringBuilder changed = new StringBuilder(text);
        for (int i = 1 + random.nextInt(2); i > 0; i--) {
            int place = random.nextInt(changed.length() + 1);
            char c = characters.charAt(random.nextInt(characters.length()));
            int kind = random.nextInt(4);
            if (kind == 0 || place == changed.length()) {
                changed.insert(place, c);
            } else if (kind == 1) {
                changed.setCharAt(place, c);
            } else if (kind == 2) {
                changed.deleteCharAt(place);
            } else {
                changed.setLength(place);
            }
        }
        return changed.toString();
    }

    /** A number in lowest terms. */
    private record Value(BigInteger n, BigInteger d) implements Comparable<Value> {
        static Value of(BigInteger n, BigInteger d) {
            BigInteger common = n.gcd(d).multiply(BigInteger.valueOf(d.signum()));
            return new Value(n.divide(common), d.divide(common));
        }

        static Value of(long whole) {
            return new Value(BigInteger.valueOf(whole), BigInteger.ONE);
        }

        static Value of(BigInteger whole) {
            return new Value(whole, BigInteger.ONE);
        }

        boolean whole() {
            return d.equals(BigInteger.ONE);
        }

        boolean zero() {
            return n.signum() == 0;
        }

        boolean tooLarge() {
            return n.abs().compareTo(Check.LIMIT) >= 0 || d.compareTo(Check.LIMIT) >= 0;
        }

        int form() {
            return !whole() ? 2 : n.abs().compareTo(BigInteger.ONE.shiftLeft(62)) < 0 ? 0 : 1;
        }

        Value plus(Value other) {
            return of(n.multiply(other.d).add(other.n.multiply(d)), d.multiply(other.d));
        }

        Value times(Value other) {
            return of(n.multiply(other.n), d.multiply(other.d));
        }

        @Override
        public int compareTo(Value other) {
            return n.multiply(other.d).compareTo(other.n.multiply(d));
        }

        @Override
        public String toString() {
            return whole() ? n.toString() : n + "/" + d;
        }
    }

    private static final class Fault extends RuntimeException {
        private static final long serialVersionUID = 1;
        private final int place;

        Fault(int place) {
            this.place = place;
        }
    }

    /** The document's words, with exceptions as the program's callers see them. */
    private static final class Oracle {
        private String text = "";
        private int fault = -1;
        private Value result = Value.of(0);
        private final Value[] variables = new Value[8];
        private int place;

        Oracle() {
            Arrays.fill(variables, Value.of(0));
        }

        static int fewest(char operator) {
            return "+*g".indexOf(operator) >= 0 ? 0 : "-/nd".indexOf(operator) >= 0 ? 1 : operator == '?' ? 3 : 2;
        }

        static int most(char operator) {
            return "+*g-/".indexOf(operator) >= 0 ? 999 : "nd".indexOf(operator) >= 0 ? 1 : operator == '?' ? 3 : 2;
        }

        int erase() {
            int had = text.length();
            text = "";
            return had;
        }

        boolean type(String more) {
            boolean taken = true;
            for (int i = 0; i < more.length(); i += 8) {
                taken &= typeRow(Check.row(more.substring(i, Math.min(i + 8, more.length()))));
            }
            return taken;
        }

        boolean typeRow(long row) {
            String longer = text;
            long left = row;
            while ((left & 255) != 0) {
                if ((left & 255) < 32 || (left & 255) > 126) {
                    return false;
                }
                longer += (char) (left & 255);
                left >>>= 8;
            }
            if (longer.length() > 120) {
                return false;
            }
            text = longer;
            return true;
        }

        String fetch(int v) {
            if (v < 0 || v > 7) {
                return "IndexOutOfBoundsException";
            }
            result = variables[v];
            return String.valueOf(result.form());
        }

        String work() {
            Node node;
            try {
                place = 0;
                node = read(0);
                if (place != text.length()) {
                    throw new Fault(place);
                }
                fault = -1;
            } catch (Fault found) {
                fault = found.place;
                return "IllegalArgumentException";
            }
            try {
                result = node.value(variables);
            } catch (UnsupportedOperationException | ArithmeticException | IllegalStateException e) {
                return e.getClass().getSimpleName();
            }
            return String.valueOf(result.form());
        }

        String keep(int v) {
            if (v < 0 || v > 7) {
                return "IndexOutOfBoundsException";
            }
            String answer = work();
            if (answer.length() == 1) {
                variables[v] = result;
                text = "";
            }
            return answer;
        }

        private char at() {
            return place < text.length() ? text.charAt(place) : 0;
        }

        private Node read(int open) {
            if (at() >= 'a' && at() <= 'h') {
                place++;
                return new Node(Character.toUpperCase(text.charAt(place - 1)), null, List.of());
            }
            if (at() == '(' && open < 12) {
                place++;
                return readBracket(open + 1);
            }
            int start = place;
            if (at() == '-') {
                place++;
            }
            int digits = place;
            while (at() >= '0' && at() <= '9') {
                place++;
            }
            if (place == digits) {
                throw new Fault(place);
            }
            return new Node('0', new BigInteger(text.substring(start, place)), List.of());
        }

        private Node readBracket(int open) {
            char operator = at();
            if (operator == 0 || OPERATORS.indexOf(operator) < 0) {
                throw new Fault(place);
            }
            place++;
            List<Node> arguments = new ArrayList<>();
            while (at() == ' ' && arguments.size() < most(operator)) {
                place++;
                arguments.add(read(open));
            }
            if (at() != ')' || arguments.size() < fewest(operator)) {
                throw new Fault(place);
            }
            place++;
            return new Node(operator, null, arguments);
        }
    }

    /** A variable's sort is a capital letter, as d and g are operators, too. */
    private record Node(char sort, BigInteger number, List<Node> arguments) {
        Value value(Value[] variables) {
            if (number != null) {
                return checked(Value.of(number));
            }
            if (sort >= 'A' && sort <= 'H') {
                return variables[sort - 'A'];
            }
            if (sort == '?') {
                return arguments.get(arguments.get(0).value(variables).zero() ? 2 : 1).value(variables);
            }
            List<Value> values = new ArrayList<>();
            for (Node argument : arguments) {
                values.add(argument.value(variables));
            }
            return done(values);
        }

        private static Value checked(Value value) {
            if (value.tooLarge()) {
                throw new UnsupportedOperationException();
            }
            return value;
        }

        private static Value inverse(Value value) {
            if (value.zero()) {
                throw new ArithmeticException();
            }
            return Value.of(value.d(), value.n());
        }

        private static void want(boolean fit) {
            if (!fit) {
                throw new IllegalStateException();
            }
        }

        private Value done(List<Value> values) {
            switch (sort) {
                case '+':
                case '*':
                case 'g':
                    return folded(values);
                case '-':
                case '/':
                    return takenAway(values);
                case 'n':
                    return Value.of(values.get(0).n());
                case 'd':
                    return Value.of(values.get(0).d());
                default:
                    return ofTwo(values.get(0), values.get(1));
            }
        }

        private Value folded(List<Value> values) {
            Value total = Value.of(sort == '*' ? 1 : 0);
            for (Value value : values) {
                if (sort == 'g') {
                    want(value.whole());
                    total = Value.of(total.n().gcd(value.n()));
                } else {
                    total = checked(sort == '+' ? total.plus(value) : total.times(value));
                }
            }
            return total;
        }

        private Value takenAway(List<Value> values) {
            boolean one = values.size() == 1;
            Value total = one ? Value.of(sort == '-' ? 0 : 1) : values.get(0);
            for (Value value : values.subList(one ? 0 : 1, values.size())) {
                total = checked(sort == '-' ? total.plus(value.times(Value.of(-1))) : total.times(inverse(value)));
            }
            return total;
        }

        private Value ofTwo(Value first, Value second) {
            switch (sort) {
                case '<':
                    return Value.of(first.compareTo(second) < 0 ? 1 : 0);
                case '=':
                    return Value.of(first.compareTo(second) == 0 ? 1 : 0);
                case '^':
                    want(second.whole() && second.n().signum() >= 0);
                    want(second.n().compareTo(BigInteger.valueOf(64)) <= 0);
                    Value total = Value.of(1);
                    for (int i = second.n().intValue(); i > 0; i--) {
                        total = checked(total.times(first));
                    }
                    return total;
                default:
                    want(first.whole() && second.whole());
                    inverse(second);
                    BigInteger[] both = first.n().divideAndRemainder(second.n());
                    return Value.of(both[sort == 'q' ? 0 : 1]);
            }
        }
    }
}
