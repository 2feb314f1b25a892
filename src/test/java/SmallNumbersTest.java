import java.util.ArrayList;
import java.util.List;

/** Every character of two arguments or of one, over all small fractions and whole numbers, not only some. */
public final class SmallNumbersTest {
    private static final int HIGHEST_TOP = 5;
    private static final int HIGHEST_BOTTOM = 6;
    private static final int HIGHEST_WHOLE = 13;

    private SmallNumbersTest() {
    }

    /** A fraction of longs in lowest terms; d is 0 for none. */
    private record Small(long n, long d) {
        static Small of(long n, long d) {
            long common = (d < 0 ? -1 : 1) * Math.max(greatest(n, d), 1);
            return new Small(n / common, d / common);
        }

        boolean isWhole() {
            return d == 1;
        }

        String text() {
            return isWhole() ? String.valueOf(n) : "(/ " + n + " " + d + ")";
        }

        String written() {
            return isWhole() ? String.valueOf(n) : n + "/" + d;
        }
    }

    public static void main(String[] args) {
        List<Small> numbers = numbers();
        fractions(numbers);
        ofOne(numbers);
        order(numbers);
        wholeNumbers();
        Check.end();
    }

    private static long greatest(long x, long y) {
        return y == 0 ? Math.abs(x) : greatest(y, x % y);
    }

    private static List<Small> numbers() {
        List<Small> numbers = new ArrayList<>();
        for (int d = 1; d <= HIGHEST_BOTTOM; d++) {
            for (int n = -HIGHEST_TOP; n <= HIGHEST_TOP; n++) {
                if (greatest(n, d) == 1) {
                    numbers.add(new Small(n, d));
                }
            }
        }
        return numbers;
    }

    private static void answers(String text, Small due) {
        PromotedNumbers x = Check.typed(text);
        String form = due.d == 0 ? Check.BY_ZERO : due.isWhole() ? "0" : "2";
        Check.due("work " + text, Check.work(x), form);
        Check.due("the value of " + text, Check.written(x), due.d == 0 ? "0" : due.written());
    }

    private static void fractions(List<Small> numbers) {
        Check.sentence("Table: +, -, * and /", "their sum .. the first less all others .. their product .. divided by");
        for (Small x : numbers) {
            for (Small y : numbers) {
                String both = " " + x.text() + " " + y.text() + ")";
                answers("(+" + both, Small.of(x.n * y.d + y.n * x.d, x.d * y.d));
                answers("(-" + both, Small.of(x.n * y.d - y.n * x.d, x.d * y.d));
                answers("(*" + both, Small.of(x.n * y.n, x.d * y.d));
                answers("(/" + both, Small.of(x.n * y.d, x.d * y.n));
            }
        }
    }

    private static void ofOne(List<Small> numbers) {
        Check.sentence("Table: +, *, -, /, n and d", "of one");
        for (Small x : numbers) {
            answers("(+ " + x.text() + ")", x);
            answers("(* " + x.text() + ")", x);
            answers("(- " + x.text() + ")", Small.of(-x.n, x.d));
            answers("(/ " + x.text() + ")", Small.of(x.d, x.n));
            answers("(n " + x.text() + ")", Small.of(x.n, 1));
            answers("(d " + x.text() + ")", Small.of(x.d, 1));
        }
    }

    private static void order(List<Small> numbers) {
        Check.sentence("Table: <, = and ?; Promise 11: against", "is less than .. the same .. is not 0");
        for (Small x : numbers) {
            for (Small y : numbers) {
                int order = Long.compare(x.n * y.d, y.n * x.d);
                String both = " " + x.text() + " " + y.text();
                answers("(<" + both + ")", Small.of(order < 0 ? 1 : 0, 1));
                answers("(=" + both + ")", Small.of(order == 0 ? 1 : 0, 1));
                answers("(?" + both + " 7)", x.n == 0 ? Small.of(7, 1) : y);
                PromotedNumbers against = Check.typed(x.text(), y.text());
                Check.work(against);
                Check.due(x.text() + " against " + y.text(), Check.against(against, 0), String.valueOf(order));
            }
        }
    }

    private static void wholeNumbers() {
        Check.sentence("Table: q, r and g", "divided by the second .. what is left then .. that divides all of them");
        for (int x = -HIGHEST_WHOLE; x <= HIGHEST_WHOLE; x++) {
            for (int y = -HIGHEST_WHOLE; y <= HIGHEST_WHOLE; y++) {
                String both = " " + x + " " + y + ")";
                answers("(q" + both, y == 0 ? new Small(0, 0) : Small.of(x / y, 1));
                answers("(r" + both, y == 0 ? new Small(0, 0) : Small.of(x % y, 1));
                answers("(g" + both, Small.of(greatest(x, y), 1));
            }
        }
    }
}
