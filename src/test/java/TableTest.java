import java.math.BigInteger;

/**
 * Each character of the document's table, and how expressions are worked out and fail: a test for each
 * sentence, on both sides of each boundary that it names.
 */
public final class TableTest {
    private static final String FAIL_1 = "(^ 16 60)";
    private static final String FAIL_2 = "(/ 0)";
    private static final String FAIL_3 = "(^ 1 65)";
    private static final String[] FAILING = {FAIL_1, FAIL_2, FAIL_3};
    private static final String[] THROWN = {Check.TOO_LARGE, Check.BY_ZERO, Check.UNFIT};

    private TableTest() {
    }

    public static void main(String[] args) {
        sum();
        product();
        lessThanNothing();
        difference();
        oneDividedBy();
        quotient();
        wholeQuotient();
        bothWhole();
        left();
        greatest();
        greatestOfNothing();
        power();
        powersBounds();
        topAndBottom();
        less();
        same();
        choice();
        onlyOneIsWorkedOut();
        fromTheLeft();
        argumentsFirst();
        oneAfterTheOther();
        beginnings();
        soManyTimes();
        asSoonAs();
        tooLarge();
        tooLargeInTheText();
        dividedByZero();
        unfit();
        firstMet();
        orderInOneStep();
        Check.end();
    }

    private static void sum() {
        Check.sentence("Table: +", "any number of arguments: their sum, 0 without any");
        Check.works("(+)", "0");
        Check.works("(+ 7)", "7");
        Check.works("(+ (/ -1 2))", "-1/2");
        Check.works("(+ 7 -9)", "-2");
        Check.works("(+ -7 -9)", "-16");
        Check.works("(+ 7 (/ 1 2) -3)", "9/2");
        Check.works("(+ 7 -7)", "0");
        Check.works("(+" + " 2".repeat(58) + ")", "116");
        Check.works("(+ 1073741823 1)", "1073741824");
        Check.works("(+ 2147483647 1)", "2147483648");
        Check.works("(+ 9223372036854775807 1)", "9223372036854775808");
        Check.works("(+ -9223372036854775808 -1)", "-9223372036854775809");
    }

    private static void product() {
        Check.sentence("Table: *", "any number: their product, 1 without any");
        Check.works("(*)", "1");
        Check.works("(* -3)", "-3");
        Check.works("(* -3 -4)", "12");
        Check.works("(* -3 4 (/ 1 6))", "-2");
        Check.works("(* 0 -3)", "0");
        Check.works("(* (/ -3 4) 0)", "0");
        Check.works("(*" + " 2".repeat(58) + ")", Check.power(58));
        Check.works("(* 65536 65536)", "4294967296");
        Check.works("(* 4294967296 4294967296)", "18446744073709551616");
        Check.works("(* 4294967296 -2147483648)", "-9223372036854775808");
    }

    private static void lessThanNothing() {
        Check.sentence("Table: -", "one or more: of one 0 less that");
        Check.faultAt("(-)", 2);
        Check.works("(- 5)", "-5");
        Check.works("(- -5)", "5");
        Check.works("(- 0)", "0");
        Check.works("(- (/ -1 2))", "1/2");
        Check.works("(- a)", "-" + Check.HIGHEST, Check.HIGHEST);
        Check.works("(- a)", Check.HIGHEST, "-" + Check.HIGHEST);
    }

    private static void difference() {
        Check.sentence("Table: -", "else the first less all others, one after the other");
        Check.works("(- 5 3)", "2");
        Check.works("(- 3 5)", "-2");
        Check.works("(- 5 5)", "0");
        Check.works("(- 5 -3)", "8");
        Check.works("(- 10 1 2 -3)", "10");
        Check.works("(- 0 5)", "-5");
        Check.works("(- (/ 1 2) (/ 1 3) (/ 1 6))", "0");
        Check.works("(-" + " 1".repeat(58) + ")", "-56");
        Check.works("(- 1073741824 1)", "1073741823");
        Check.works("(- -9223372036854775808 1)", "-9223372036854775809");
    }

    private static void oneDividedBy() {
        Check.sentence("Table: /", "one or more: of one 1 divided by that");
        Check.faultAt("(/)", 2);
        Check.works("(/ 4)", "1/4");
        Check.works("(/ -4)", "-1/4");
        Check.works("(/ 1)", "1");
        Check.works("(/ -1)", "-1");
        Check.works("(/ (/ -2 3))", "-3/2");
        Check.works("(/ (/ 1 3))", "3");
        Check.fails("(/ 0)", Check.BY_ZERO);
    }

    private static void quotient() {
        Check.sentence("Table: /", "else the first divided by all others, one after the other");
        Check.works("(/ 6 3)", "2");
        Check.works("(/ 6 4)", "3/2");
        Check.works("(/ -6 -4)", "3/2");
        Check.works("(/ 6 -4)", "-3/2");
        Check.works("(/ 0 5)", "0");
        Check.works("(/ 100 2 5 20)", "1/2");
        Check.works("(/ (/ 1 2) (/ 1 3) (/ 3 2))", "1");
        Check.works("(/ 1 5)", "1/5");
        Check.works("(/" + " 2".repeat(58) + ")", "1/" + Check.power(56));
    }

    private static void wholeQuotient() {
        Check.sentence("Table: q", "two: the first divided by the second .. towards 0");
        Check.faultAt("(q 7)", 4);
        Check.faultAt("(q 7 2 1)", 6);
        Check.works("(q 7 2)", "3");
        Check.works("(q -7 2)", "-3");
        Check.works("(q 7 -2)", "-3");
        Check.works("(q -7 -2)", "3");
        Check.works("(q 6 2)", "3");
        Check.works("(q -6 2)", "-3");
        Check.works("(q 1 2)", "0");
        Check.works("(q -1 2)", "0");
        Check.works("(q 2 -2)", "-1");
        Check.works("(q 0 -2)", "0");
        Check.works("(q a -1)", "-" + Check.HIGHEST, Check.HIGHEST);
        Check.works("(q a b)", "1", Check.HIGHEST, Check.power(240, -2));
        Check.works("(q b a)", "0", Check.HIGHEST, Check.power(240, -2));
        Check.works("(q (- a) (^ 2 64))", "-" + Check.power(176, -1), Check.HIGHEST);
        Check.works("(q a (- b))", "-" + Check.power(120, 1), Check.HIGHEST, Check.power(120, -1));
    }

    private static void bothWhole() {
        Check.sentence("Table: q and r", "both being whole");
        for (String sort : new String[] {"q", "r"}) {
            Check.works("(" + sort + " (/ 4 2) (/ 4 4))", sort.equals("q") ? "2" : "0");
            Check.fails("(" + sort + " (/ 1 2) 2)", Check.UNFIT);
            Check.fails("(" + sort + " 2 (/ 1 2))", Check.UNFIT);
            Check.fails("(" + sort + " (/ 1 2) (/ 1 2))", Check.UNFIT);
            Check.fails("(" + sort + " (/ -5 2) 1)", Check.UNFIT);
            Check.fails("(" + sort + " 0 (/ 3 2))", Check.UNFIT);
        }
    }

    private static void left() {
        Check.sentence("Table: r", "two: what is left then (the first less q times the second)");
        Check.faultAt("(r 7)", 4);
        Check.faultAt("(r 7 2 1)", 6);
        Check.works("(r 7 2)", "1");
        Check.works("(r -7 2)", "-1");
        Check.works("(r 7 -2)", "1");
        Check.works("(r -7 -2)", "-1");
        Check.works("(r 6 2)", "0");
        Check.works("(r -6 2)", "0");
        Check.works("(r 1 2)", "1");
        Check.works("(r -1 2)", "-1");
        Check.works("(r 0 -2)", "0");
        Check.works("(r a b)", "1", Check.HIGHEST, Check.power(240, -2));
        Check.works("(r (- b) a)", "-" + Check.power(240, -2), Check.HIGHEST, Check.power(240, -2));
        Check.works("(r a a)", "0", Check.HIGHEST);
        Check.works("(r (- a) (^ 2 64))", "-18446744073709551615", Check.HIGHEST);
    }

    private static void greatest() {
        Check.sentence("Table: g", "any number, all whole: the greatest whole number that divides all of them");
        Check.works("(g 5)", "5");
        Check.works("(g -5)", "5");
        Check.works("(g 12 18)", "6");
        Check.works("(g -12 -18)", "6");
        Check.works("(g 4 9)", "1");
        Check.works("(g 0 7)", "7");
        Check.works("(g 7 0)", "7");
        Check.works("(g 7 7)", "7");
        Check.works("(g 12 -18 0 30 27)", "3");
        Check.works("(g" + " 6".repeat(58) + ")", "6");
        Check.works("(g a (- a))", Check.HIGHEST, Check.HIGHEST);
        Check.works("(g a b)", Check.power(120, -1), Check.HIGHEST, Check.power(120, -1));
        Check.works("(g a b)", Check.power(200), Check.power(239), Check.power(200));
        Check.works("(g (/ 12 2) (/ 27 3))", "3");
        Check.fails("(g (/ 1 2))", Check.UNFIT);
        Check.fails("(g (/ 1 2) 3)", Check.UNFIT);
        Check.fails("(g 3 (/ 1 2))", Check.UNFIT);
        Check.fails("(g 1 2 (/ 3 2) 4)", Check.UNFIT);
    }

    private static void greatestOfNothing() {
        Check.sentence("Table: g", "0 when they are all 0, or there is none");
        Check.works("(g)", "0");
        Check.works("(g 0)", "0");
        Check.works("(g 0 0 0)", "0");
        Check.works("(g 0 0 -1)", "1");
        Check.works("(g 0 -4 0)", "4");
    }

    private static void power() {
        Check.sentence("Table: ^", "two: the first multiplied with itself so many times as the second says");
        Check.faultAt("(^ 7)", 4);
        Check.faultAt("(^ 7 2 1)", 6);
        Check.works("(^ 7 1)", "7");
        Check.works("(^ 7 2)", "49");
        Check.works("(^ -2 3)", "-8");
        Check.works("(^ -2 4)", "16");
        Check.works("(^ (/ -2 3) 3)", "-8/27");
        Check.works("(^ (/ -2 3) 2)", "4/9");
        Check.works("(^ 0 1)", "0");
        Check.works("(^ 0 64)", "0");
        Check.works("(^ -1 63)", "-1");
        Check.works("(^ -1 64)", "1");
        Check.works("(^ a 1)", Check.HIGHEST, Check.HIGHEST);
    }

    private static void powersBounds() {
        Check.sentence("Table: ^", "that being whole and 0 .. 64 (for 0 it is 1)");
        Check.works("(^ 5 0)", "1");
        Check.works("(^ 0 0)", "1");
        Check.works("(^ (/ -1 2) 0)", "1");
        Check.works("(^ a 0)", "1", "-" + Check.HIGHEST);
        Check.works("(^ 2 63)", "9223372036854775808");
        Check.works("(^ 2 64)", "18446744073709551616");
        Check.works("(^ 2 (/ 128 2))", "18446744073709551616");
        Check.works("(^ 2 (/ 0 2))", "1");
        for (String base : new String[] {"0", "1", "-1", "2", "(/ 1 2)"}) {
            Check.fails("(^ " + base + " 65)", Check.UNFIT);
            Check.fails("(^ " + base + " -1)", Check.UNFIT);
            Check.fails("(^ " + base + " -64)", Check.UNFIT);
            Check.fails("(^ " + base + " (/ 1 2))", Check.UNFIT);
            Check.fails("(^ " + base + " (/ -1 2))", Check.UNFIT);
            Check.fails("(^ " + base + " (/ 127 2))", Check.UNFIT);
            Check.fails("(^ " + base + " (/ 129 2))", Check.UNFIT);
        }
        // A power that only looks low in its lowest bits is none.
        for (int bits : new int[] {8, 16, 30, 31, 32, 60, 62, 63, 64, 90, 239}) {
            Check.fails("(^ 1 " + Check.power(bits) + ")", Check.UNFIT);
            Check.fails("(^ 1 " + Check.power(bits, 2) + ")", Check.UNFIT);
            Check.fails("(^ 1 -" + Check.power(bits, -2) + ")", Check.UNFIT);
        }
    }

    private static void topAndBottom() {
        Check.sentence("Table: n", "one: its n");
        Check.faultAt("(n)", 2);
        Check.faultAt("(n 1 2)", 4);
        Check.works("(n 5)", "5");
        Check.works("(n -5)", "-5");
        Check.works("(n 0)", "0");
        Check.works("(n (/ -6 4))", "-3");
        Check.works("(n (/ 6 -4))", "-3");
        Check.works("(n (/ a 2))", Check.HIGHEST, Check.HIGHEST);
        Check.sentence("Table: d", "one: its d");
        Check.faultAt("(d)", 2);
        Check.faultAt("(d 1 2)", 4);
        Check.works("(d 5)", "1");
        Check.works("(d -5)", "1");
        Check.works("(d 0)", "1");
        Check.works("(d (/ -6 4))", "2");
        Check.works("(d (/ 6 -4))", "2");
        Check.works("(d (/ a))", Check.HIGHEST, Check.HIGHEST);
        Check.works("(d (/ a))", Check.HIGHEST, "-" + Check.HIGHEST);
    }

    private static void less() {
        Check.sentence("Table: <", "two: 1 when the first is less than the second, else 0");
        Check.faultAt("(< 1)", 4);
        Check.faultAt("(< 1 2 3)", 6);
        Check.works("(< 1 2)", "1");
        Check.works("(< 2 2)", "0");
        Check.works("(< 3 2)", "0");
        Check.works("(< -1 0)", "1");
        Check.works("(< 0 -1)", "0");
        Check.works("(< 0 0)", "0");
        Check.works("(< 0 1)", "1");
        Check.works("(< -2 1)", "1");
        Check.works("(< 1 -2)", "0");
        Check.works("(< -2 -1)", "1");
        Check.works("(< -1 -2)", "0");
        Check.works("(< (/ 1 3) (/ 1 2))", "1");
        Check.works("(< (/ 1 2) (/ 1 3))", "0");
        Check.works("(< (/ -1 2) (/ -1 3))", "1");
        Check.works("(< (/ -1 3) (/ -1 2))", "0");
        Check.works("(< (/ (- a 1) a) (/ a (- a 1)))", "1", Check.HIGHEST);
        Check.works("(< (/ (- a 2) (- a 1)) (/ (- a 1) a))", "1", Check.HIGHEST);
        Check.works("(< (/ (- a 1) a) (/ (- a 2) (- a 1)))", "0", Check.HIGHEST);
        Check.works("(< a b)", "1", Check.power(240, -2), Check.HIGHEST);
        Check.works("(< b a)", "0", Check.power(240, -2), Check.HIGHEST);
    }

    private static void same() {
        Check.sentence("Table: =", "two: 1 when they are the same, else 0");
        Check.faultAt("(= 1)", 4);
        Check.faultAt("(= 1 2 3)", 6);
        Check.works("(= 2 2)", "1");
        Check.works("(= 2 3)", "0");
        Check.works("(= 3 2)", "0");
        Check.works("(= 2 -2)", "0");
        Check.works("(= (- 0) 0)", "1");
        Check.works("(= (/ 2 4) (/ 1 2))", "1");
        Check.works("(= (/ 1 2) (/ 1 3))", "0");
        Check.works("(= (/ 1 2) (/ 3 2))", "0");
        Check.works("(= (^ 2 64) (+ (- (^ 2 64) 1) 1))", "1");
        Check.works("(= a (- a 1))", "0", Check.HIGHEST);
        Check.works("(= (/ (- a 1) a) (/ (- a 2) (- a 1)))", "0", Check.HIGHEST);
    }

    private static void choice() {
        Check.sentence("Table: ?", "three: the second when the first is not 0, else the third");
        Check.faultAt("(? 1 2)", 6);
        Check.faultAt("(? 1 2 3 4)", 8);
        Check.works("(? 0 2 3)", "3");
        Check.works("(? -0 2 3)", "3");
        Check.works("(? (- 5 5) 2 3)", "3");
        Check.works("(? 1 2 3)", "2");
        Check.works("(? -1 2 3)", "2");
        Check.works("(? (/ -1 2) 2 3)", "2");
        Check.works("(? (/ a) 2 3)", "2", Check.HIGHEST);
        Check.works("(? (^ 2 64) 2 3)", "2");
        Check.works("(? (^ 2 60) (/ 1 2) 3)", "1/2");
        Check.works("(? 0 2 (/ -3 2))", "-3/2");
    }

    private static void onlyOneIsWorkedOut() {
        Check.sentence("Table: ?", "of these two only that one is worked out");
        for (int i = 0; i < 3; i++) {
            Check.works("(? 0 " + FAILING[i] + " 3)", "3");
            Check.works("(? 1 2 " + FAILING[i] + ")", "2");
            Check.fails("(? 1 " + FAILING[i] + " 3)", THROWN[i]);
            Check.fails("(? 0 2 " + FAILING[i] + ")", THROWN[i]);
            Check.fails("(? " + FAILING[i] + " 2 3)", THROWN[i]);
            Check.works("(+ (? 0 (+ (+ 1 " + FAILING[i] + ") 2) 6) (? 1 5 (g (- " + FAILING[i] + ") (+))) 7)", "18");
        }
        Check.works("(? 0 " + Check.power(240) + " 3)", "3");
        Check.works("(? 1 -2 -" + Check.power(240) + ")", "-2");
        Check.works("(? 0 (/ 0) (? 1 4 (^ 2 99)))", "4");
        Check.works("(? (? 0 (/ 0) 0) (^ 2 99) (? 0 (/ 0) 8))", "8");
        Check.works("(? 1 (? 0 (/ 0) 9) (? 1 (/ 0) (/ 0)))", "9");
        // What is not worked out has to be an expression all the same.
        Check.faultAt("(? 1 2 (q 1))", 11);
        Check.faultAt("(? 0 x 2)", 5);
    }

    private static void fromTheLeft() {
        Check.sentence("Term: to work out", "its arguments are worked out from the left to the right");
        for (int i = 0; i < 3; i++) {
            for (int k = 0; k < 3; k++) {
                for (char sort : "+*-/qrg^<=".toCharArray()) {
                    Check.fails("(" + sort + " " + FAILING[i] + " " + FAILING[k] + ")", THROWN[i]);
                }
                for (char sort : "+*-/g".toCharArray()) {
                    Check.fails("(" + sort + " 1 " + FAILING[i] + " " + FAILING[k] + ")", THROWN[i]);
                }
                Check.fails("(? " + FAILING[i] + " " + FAILING[k] + " 1)", THROWN[i]);
                Check.fails("(? 1 " + FAILING[i] + " " + FAILING[k] + ")", THROWN[i]);
                Check.fails("(? 0 " + FAILING[i] + " " + FAILING[k] + ")", THROWN[k]);
            }
            for (char sort : "+*-/gnd".toCharArray()) {
                Check.fails("(" + sort + " " + FAILING[i] + ")", THROWN[i]);
            }
        }
    }

    private static void argumentsFirst() {
        Check.sentence("Term: to work out", "each as a whole, then what the character says is done with their values");
        String[] unfit = {"(q (/ 1 2) ", "(r (/ 1 2) ", "(g (/ 1 2) ", "(g 1 (/ 1 2) 2 "};
        for (int i = 0; i < 3; i++) {
            for (String text : unfit) {
                Check.fails(text + FAILING[i] + ")", THROWN[i]);
            }
            Check.fails("(^ " + FAILING[i] + " 65)", THROWN[i]);
            Check.fails("(q " + FAILING[i] + " 0)", THROWN[i]);
            Check.fails("(/ 1 0 " + FAILING[i] + ")", THROWN[i]);
            Check.fails("(/ 1 a 2 " + FAILING[i] + ")", THROWN[i], Check.HIGHEST);
            Check.fails("(+ a 1 " + FAILING[i] + ")", THROWN[i], Check.HIGHEST);
            Check.fails("(- a -1 " + FAILING[i] + ")", THROWN[i], Check.HIGHEST);
            Check.fails("(* a 2 " + FAILING[i] + ")", THROWN[i], Check.HIGHEST);
            Check.fails("(+ (+ a 1) " + FAILING[i] + ")", Check.TOO_LARGE, Check.HIGHEST);
            Check.fails("(+ (q 1 (/ 1 2)) " + FAILING[i] + ")", Check.UNFIT);
        }
    }

    private static void oneAfterTheOther() {
        Check.sentence("Term: to work out", "one after the other from the left");
        Check.works("(+ a -1 1)", Check.HIGHEST, Check.HIGHEST);
        Check.fails("(+ a 1 -1)", Check.TOO_LARGE, Check.HIGHEST);
        Check.works("(+ 1 -1 a)", Check.HIGHEST, Check.HIGHEST);
        Check.fails("(+ 1 a -1)", Check.TOO_LARGE, Check.HIGHEST);
        Check.works("(- a 1 -1)", Check.HIGHEST, Check.HIGHEST);
        Check.fails("(- a -1 1)", Check.TOO_LARGE, Check.HIGHEST);
        Check.works("(* a (/ 1 2) 2)", Check.HIGHEST, Check.HIGHEST);
        Check.fails("(* a 2 (/ 1 2))", Check.TOO_LARGE, Check.HIGHEST);
        Check.works("(* 0 a 2)", "0", Check.HIGHEST);
        Check.fails("(* a 2 0)", Check.TOO_LARGE, Check.HIGHEST);
        Check.works("(/ a 2 (/ 1 2))", Check.HIGHEST, Check.HIGHEST);
        Check.fails("(/ a (/ 1 2) 2)", Check.TOO_LARGE, Check.HIGHEST);
        Check.fails("(/ 1 a 2 0)", Check.TOO_LARGE, Check.HIGHEST);
        Check.fails("(/ 1 a 0 2)", Check.BY_ZERO, Check.HIGHEST);
        Check.fails("(/ 1 0 a 2)", Check.BY_ZERO, Check.HIGHEST);
        Check.fails("(/ a (/ 1 2) 0)", Check.TOO_LARGE, Check.HIGHEST);
        Check.fails("(/ a 0 (/ 1 2))", Check.BY_ZERO, Check.HIGHEST);
    }

    private static void beginnings() {
        Check.sentence("Term: to work out", "sums, products, g: beginning with 0, 1, 0; ^: .. beginning with 1");
        Check.works("(+ a)", "-" + Check.HIGHEST, "-" + Check.HIGHEST);
        Check.works("(* a)", "-" + Check.HIGHEST, "-" + Check.HIGHEST);
        Check.works("(g a)", Check.HIGHEST, "-" + Check.HIGHEST);
        Check.works("(^ a 1)", "-" + Check.HIGHEST, "-" + Check.HIGHEST);
        Check.works("(* (/ a))", "1/" + Check.HIGHEST, Check.HIGHEST);
        Check.fails("(g (/ 1 2))", Check.UNFIT);
    }

    private static void soManyTimes() {
        Check.sentence("Term: to work out", "^: multiplied so many times, beginning with 1");
        for (int times = 0; times <= 64; times++) {
            BigInteger two = BigInteger.TWO.pow(times);
            BigInteger three = BigInteger.valueOf(3).pow(times);
            String minus = times % 2 == 0 ? "" : "-";
            Check.works("(^ 2 " + times + ")", two.toString());
            Check.works("(^ -3 " + times + ")", minus + three);
            Check.works("(^ (/ 2 -3) " + times + ")", minus + two + (times == 0 ? "" : "/" + three));
            Check.works("(^ 1 " + times + ")", "1");
            Check.works("(^ 0 " + times + ")", times == 0 ? "1" : "0");
        }
        Check.works("(^ a 0)", "1", Check.HIGHEST);
        Check.works("(^ (/ -1 a) 0)", "1", Check.HIGHEST);
    }

    private static void asSoonAs() {
        Check.sentence("Term: to fail", "It FAILS as soon as something in that can't be done");
        for (int i = 0; i < 3; i++) {
            for (int k = 0; k < 3; k++) {
                Check.fails("(+ (* (- 1 " + FAILING[i] + ") 2) " + FAILING[k] + ")", THROWN[i]);
                Check.fails("(+ (+ 1 (? 1 " + FAILING[i] + " 2)) (+ (? 0 1 " + FAILING[k] + ")))", THROWN[i]);
                Check.fails("(? (n " + FAILING[i] + ") " + FAILING[k] + " " + FAILING[k] + ")", THROWN[i]);
                Check.fails("(^ (d " + FAILING[i] + ") " + FAILING[k] + ")", THROWN[i]);
            }
            // What fails inside is not saved by what would be done with it.
            Check.fails("(* 0 " + FAILING[i] + ")", THROWN[i]);
            Check.fails("(^ " + FAILING[i] + " 0)", THROWN[i]);
            Check.fails("(= " + FAILING[i] + " " + FAILING[i] + ")", THROWN[i]);
            Check.fails("(g 1 " + FAILING[i] + ")", THROWN[i]);
            Check.fails("(? 1 (? " + FAILING[i] + " 2 2) 3)", THROWN[i]);
            Check.fails("(- ".repeat(11) + FAILING[i] + ")".repeat(11), THROWN[i]);
        }
    }

    private static void tooLarge() {
        Check.sentence("Term: to fail with 1", "a value that comes out, or comes out on the way, is TOO LARGE");
        Check.works("(^ 13 64)", new BigInteger("13").pow(64).toString());
        Check.fails("(^ 14 64)", Check.TOO_LARGE);
        Check.works("(^ 14 63)", new BigInteger("14").pow(63).toString());
        Check.works("(^ (/ -1 14) 63)", "-1/" + new BigInteger("14").pow(63));
        Check.fails("(^ (/ -1 14) 64)", Check.TOO_LARGE);
        Check.works("(^ 16 59)", Check.power(236));
        Check.fails("(^ 16 60)", Check.TOO_LARGE);
        Check.works("(^ (^ 2 60) 3)", Check.power(180));
        Check.fails("(^ (^ 2 60) 4)", Check.TOO_LARGE);
        Check.works("(* (^ 2 64) (^ 2 64) (^ 2 64) (^ 2 47))", Check.power(239));
        Check.fails("(* (^ 2 64) (^ 2 64) (^ 2 64) (^ 2 48))", Check.TOO_LARGE);
        Check.fails("(* (^ 2 64) (^ 2 64) (^ 2 64) (^ -2 48) 0)", Check.TOO_LARGE);
        Check.fails("(/ 1 (^ 2 64) (^ 2 64) (^ 2 64) (^ 2 48))", Check.TOO_LARGE);
        Check.works("(- (+ a -1) -1)", Check.HIGHEST, Check.HIGHEST);
        Check.fails("(- (+ a 1) 1)", Check.TOO_LARGE, Check.HIGHEST);
        Check.fails("(? (+ a 1) 1 1)", Check.TOO_LARGE, Check.HIGHEST);
        Check.fails("(< 0 (+ a 1))", Check.TOO_LARGE, Check.HIGHEST);
    }

    private static void tooLargeInTheText() {
        Check.sentence("Term: to fail with 1", "a number in the text, too");
        Check.works("(- " + Check.HIGHEST + " 1)", Check.power(240, -2));
        Check.fails("(- " + Check.power(240) + " 1)", Check.TOO_LARGE);
        Check.fails("(+ -" + Check.power(240) + " 1)", Check.TOO_LARGE);
        Check.fails("(* 0 " + Check.power(240) + ")", Check.TOO_LARGE);
        Check.fails("(< 1 " + Check.power(240) + ")", Check.TOO_LARGE);
        Check.fails("9".repeat(120), Check.TOO_LARGE);
        Check.fails("-" + "9".repeat(119), Check.TOO_LARGE);
        Check.fails("(+ " + Check.power(240) + " (/ 0))", Check.TOO_LARGE);
        Check.fails("(+ (/ 0) " + Check.power(240) + ")", Check.BY_ZERO);
    }

    private static void dividedByZero() {
        Check.sentence("Term: to fail with 2", "something is divided by 0");
        Check.fails("(/ 0)", Check.BY_ZERO);
        Check.fails("(/ -0)", Check.BY_ZERO);
        Check.fails("(/ (- 1 1))", Check.BY_ZERO);
        Check.fails("(/ h)", Check.BY_ZERO);
        Check.fails("(/ 1 0)", Check.BY_ZERO);
        Check.fails("(/ 0 0)", Check.BY_ZERO);
        Check.works("(/ 0 1)", "0");
        Check.fails("(/ 1 2 0 3)", Check.BY_ZERO);
        Check.fails("(/ 1 2 3 0)", Check.BY_ZERO);
        Check.works("(/ 0 2 3)", "0");
        Check.fails("(/ (/ 1 2) 0)", Check.BY_ZERO);
        for (String sort : new String[] {"q", "r"}) {
            Check.fails("(" + sort + " 1 0)", Check.BY_ZERO);
            Check.fails("(" + sort + " 0 0)", Check.BY_ZERO);
            Check.fails("(" + sort + " -1 0)", Check.BY_ZERO);
            Check.works("(" + sort + " 0 1)", "0");
            Check.works("(" + sort + " 0 -1)", "0");
        }
        Check.fails("(^ (/ 0) 0)", Check.BY_ZERO);
    }

    private static void unfit() {
        Check.sentence("Term: to fail with 3",
                "an argument is not as the character wants it (not whole, or not 0 .. 64)");
        Check.fails("(q 1 (/ 1 2))", Check.UNFIT);
        Check.fails("(r (/ 1 2) 1)", Check.UNFIT);
        Check.fails("(g 0 (/ 1 2))", Check.UNFIT);
        Check.fails("(^ 1 (/ 1 2))", Check.UNFIT);
        Check.fails("(^ 1 65)", Check.UNFIT);
        Check.fails("(^ 1 -1)", Check.UNFIT);
        // The other characters take what is broken, and ^ takes any first argument.
        Check.works("(^ (/ 1 2) 2)", "1/4");
        Check.works("(^ -65 1)", "-65");
        Check.works("(+ (/ 1 2) (/ 1 2))", "1");
        Check.works("(< (/ 1 2) (/ 2 3))", "1");
        Check.works("(? (/ 1 2) (/ 2 3) (/ 3 4))", "2/3");
    }

    private static void firstMet() {
        Check.sentence("Term: to fail", "the first that is met counts");
        Check.fails("(+ (- (/ 0)) (* " + FAIL_3 + "))", Check.BY_ZERO);
        Check.fails("(+ 1 (* 2 " + FAIL_3 + ") (/ 0))", Check.UNFIT);
        Check.fails("(/ (+ 1 " + FAIL_1 + ") (/ 0))", Check.TOO_LARGE);
        Check.fails("(/ (q 1 (/ 1 2)) 0)", Check.UNFIT);
        Check.fails("(q (/ 1 0) (/ 1 2))", Check.BY_ZERO);
        Check.fails("(^ (+ a 1) 65)", Check.TOO_LARGE, Check.HIGHEST);
        Check.fails("(q (+ a 1) 0)", Check.TOO_LARGE, Check.HIGHEST);
        Check.fails("(/ (+ a 1) 0)", Check.TOO_LARGE, Check.HIGHEST);
        Check.fails("(? (/ 0) " + FAIL_1 + " " + FAIL_3 + ")", Check.BY_ZERO);
    }

    private static void orderInOneStep() {
        Check.sentence("Term: to fail", "for one step of doing, 3 is looked at first, then 2, then 1");
        Check.fails("(q (/ 1 2) 0)", Check.UNFIT);
        Check.fails("(r (/ 1 2) 0)", Check.UNFIT);
        Check.fails("(q 1 0)", Check.BY_ZERO);
        Check.fails("(r 1 0)", Check.BY_ZERO);
        Check.fails("(^ a 65)", Check.UNFIT, Check.HIGHEST);
        Check.fails("(^ a -1)", Check.UNFIT, Check.HIGHEST);
        Check.fails("(^ a (/ 5 2))", Check.UNFIT, Check.HIGHEST);
        Check.fails("(^ a 64)", Check.TOO_LARGE, Check.HIGHEST);
        Check.fails("(^ 0 -1)", Check.UNFIT);
        Check.fails("(/ a 0)", Check.BY_ZERO, Check.HIGHEST);
    }
}
