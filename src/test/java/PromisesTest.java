import java.math.BigInteger;

/** Each promise by hand: ordinary inputs, the edges that the document names, and wrong inputs. */
public final class PromisesTest {
    private static final String NO_EXPRESSION = "IllegalArgumentException";
    private static final String LARGE = "UnsupportedOperationException";
    private static final String BY_ZERO = "ArithmeticException";
    private static final String UNFIT = "IllegalStateException";
    private static final String NO_VARIABLE = "IndexOutOfBoundsException";
    private static final int[] NO_VARIABLES = {-1, 8, 9, Integer.MIN_VALUE, Integer.MAX_VALUE};

    private PromisesTest() {
    }

    public static void main(String[] args) {
        newObject();
        type();
        erase();
        fault();
        faultStays();
        workedOut();
        workedOutAtTheLimit();
        failures();
        firstFailureCounts();
        workChangesOnThrow();
        keep();
        keepThrows();
        form();
        sign();
        digit();
        bits();
        against();
        fetch();
        Check.end();
    }

    private static void newObject() {
        Check.due("NONE", PromotedNumbers.NONE, -1);
        PromotedNumbers x = new PromotedNumbers();
        Check.due("new fault", x.fault(), PromotedNumbers.NONE);
        Check.due("new form", x.form(), 0);
        Check.due("new sign", x.sign(), 0);
        Check.due("new digits", Check.written(x), "0");
        Check.due("new n", x.bits(0, 0), 0);
        Check.due("new d", x.bits(1, 0), 1);
        for (int v = 0; v < 8; v++) {
            Check.due("new against " + v, Check.against(x, v), "0");
            Check.due("new fetch " + v, Check.fetch(x, v), "0");
        }
        Check.due("new text", x.erase(), 0);
        Check.due("new work", Check.work(x), NO_EXPRESSION);
        Check.due("new work's fault", x.fault(), 0);
        for (char c = 'a'; c <= 'h'; c++) {
            Check.due("new variable", valueOf(String.valueOf(c)), "0");
        }
    }

    private static void type() {
        PromotedNumbers x = new PromotedNumbers();
        Check.due("type nothing", x.type(0), true);
        Check.due("type eight", x.type(Check.row("12345678")), true);
        Check.due("type behind it", x.type(Check.row("90")), true);
        Check.due("work", Check.work(x), "0");
        Check.due("order", Check.written(x), "1234567890");
        Check.due("a 0 ends the row", x.type(Check.row("1\u00002\u001f\u00ff")), true);
        Check.due("work", Check.work(x), "0");
        Check.due("only up to the 0", Check.written(x), "12345678901");
        String[] bad = {"\u001f", "\u007f", "\u0080", "\u00ff", "1\u001f", "1234567\u007f", "\u00e1", "\n1"};
        for (String row : bad) {
            Check.due("type bad", x.type(Check.row(row)), false);
        }
        Check.due("type all bits", x.type(-1L), false);
        Check.due("bad ones change nothing", x.erase(), 11);
        Check.due("type lowest and highest", x.type(Check.row(" ~")), true);
        Check.due("they are there", x.erase(), 2);
        typeToTheEnd();
    }

    private static void typeToTheEnd() {
        PromotedNumbers x = Check.typed("0".repeat(113));
        Check.due("one too many", x.type(Check.row("12345678")), false);
        Check.due("work", Check.work(x), "0");
        Check.due("nothing of it is taken", Check.written(x), "0");
        Check.due("just enough", x.type(Check.row("1234567")), true);
        Check.due("full", x.type(Check.row("8")), false);
        Check.due("full takes nothing", x.type(0), true);
        Check.due("full takes what begins with 0", x.type(Check.row("\u00008")), true);
        Check.due("work", Check.work(x), "0");
        Check.due("all of it is taken", Check.written(x), "1234567");
        Check.due("full erase", x.erase(), 120);
    }

    private static void erase() {
        PromotedNumbers x = Check.typed("(+ 1 2)");
        Check.due("erase", x.erase(), 7);
        Check.due("erase again", x.erase(), 0);
        Check.due("erased", Check.work(x), NO_EXPRESSION);
        Check.type(x, "5");
        Check.due("a new text", Check.work(x), "0");
        Check.due("its value", Check.written(x), "5");
        Check.due("work leaves the text", x.erase(), 1);
        Check.due("erase leaves the result", Check.written(x), "5");
    }

    private static void fault() {
        faultOf("", 0);
        faultOf("-", 1);
        faultOf("-a", 1);
        faultOf("- 1", 1);
        faultOf("--1", 1);
        faultOf("+1", 0);
        faultOf("1-", 1);
        faultOf("1 ", 1);
        faultOf(" 1", 0);
        faultOf("1 2", 1);
        faultOf("a1", 1);
        faultOf("ab", 1);
        faultOf("1a", 1);
        faultOf("i", 0);
        faultOf("A", 0);
        faultOf("`", 0);
        faultOf("/", 0);
        faultOf(":", 0);
        faultOf(")", 0);
        faultOf("(", 1);
        faultOf("()", 1);
        faultOf("((+))", 1);
        faultOf("( + 1)", 1);
        faultOf("(a 1)", 1);
        faultOf("(1 2)", 1);
        faultOf("(~ 1)", 1);
        faultOf("(+", 2);
        faultOf("(+1)", 2);
        faultOf("(+(+))", 2);
        faultOf("(++)", 2);
        faultOf("(+ ", 3);
        faultOf("(+ )", 3);
        faultOf("(+  1)", 3);
        faultOf("(+ 1 )", 5);
        faultOf("(+ 1", 4);
        faultOf("(+ 1-2)", 4);
        faultOf("(+ -)", 4);
        faultOf("(+ a-)", 4);
        faultOf("(+ 1(+))", 4);
        faultOf("(+ (+)1)", 6);
        faultOf("(+ 1))", 5);
        faultOf("(+ 1) ", 5);
        faultOf("(+ 1)2", 5);
        faultOf("(+ +)", 3);
        faultOf("(+ i)", 3);
        faultsOfArguments();
        faultsOfDepth();
    }

    private static void faultsOfArguments() {
        for (char c : "+*g".toCharArray()) {
            noFault("(" + c + ")");
            noFault("(" + c + " 1)");
            noFault("(" + c + " 1".repeat(58) + ")");
        }
        for (char c : "-/".toCharArray()) {
            faultOf("(" + c + ")", 2);
            noFault("(" + c + " 1)");
            noFault("(" + c + " 1".repeat(58) + ")");
        }
        for (char c : "qr^<=".toCharArray()) {
            faultOf("(" + c + ")", 2);
            faultOf("(" + c + " 1)", 4);
            noFault("(" + c + " 1 1)");
            faultOf("(" + c + " 1 1 1)", 6);
            faultOf("(" + c + " 1 1 ", 6);
            faultOf("(" + c + " 1 1  ", 6);
            faultOf("(" + c + " 1 1", 6);
        }
        for (char c : "nd".toCharArray()) {
            faultOf("(" + c + ")", 2);
            noFault("(" + c + " 1)");
            faultOf("(" + c + " 1 1)", 4);
            faultOf("(" + c + " (+ 1 2) 1)", 10);
        }
        faultOf("(?)", 2);
        faultOf("(? 1)", 4);
        faultOf("(? 1 2)", 6);
        noFault("(? 1 2 3)");
        faultOf("(? 1 2 3 4)", 8);
        faultOf("(? 1 2 (?))", 9);
        faultOf("(? 0 (q 1) 3)", 9);
        faultOf("(+ (n 1) (n 1 2))", 13);
        faultOf("(n (n 1) 2)", 8);
    }

    private static void faultsOfDepth() {
        noFault("(+ ".repeat(11) + "(+)" + ")".repeat(11));
        faultOf("(+ ".repeat(12) + "(+)" + ")".repeat(12), 36);
        faultOf("(+ ".repeat(12) + "(", 36);
        faultOf("(+ ".repeat(12), 36);
        faultOf("(".repeat(13), 1);
        noFault("(+ ".repeat(11) + "(+ 1) (+ 2) (* 3)" + ")".repeat(11));
        faultOf("(+ ".repeat(11) + "(+ 1) (+ (+))" + ")".repeat(11), 33 + 9);
        noFault("(+" + " (+ (+))".repeat(14) + ")");
    }

    private static void faultStays() {
        PromotedNumbers x = Check.typed("(+ 1");
        Check.due("not read yet", x.fault(), -1);
        Check.due("work", Check.work(x), NO_EXPRESSION);
        Check.due("fault", x.fault(), 4);
        x.erase();
        Check.due("erase leaves it", x.fault(), 4);
        Check.type(x, "(/ 1 0)");
        Check.due("type leaves it", x.fault(), 4);
        Check.due("keep that reads nothing", Check.keep(x, 8), NO_VARIABLE);
        Check.due("leaves it", x.fault(), 4);
        Check.due("a text that fails", Check.work(x), BY_ZERO);
        Check.due("is an expression", x.fault(), -1);
        Check.type(x, "x");
        Check.due("keep", Check.keep(x, 0), NO_EXPRESSION);
        Check.due("keep finds one, too", x.fault(), 7);
        x.erase();
        Check.type(x, "7");
        Check.due("keep", Check.keep(x, 0), "0");
        Check.due("keep of an expression", x.fault(), -1);
    }

    private static void workedOut() {
        worksOut("0", "0");
        worksOut("-0", "0");
        worksOut("007", "7");
        worksOut("-0012", "-12");
        worksOut("(+)", "0");
        worksOut("(+ 1)", "1");
        worksOut("(+ 1 -2 (/ 1 2))", "-1/2");
        worksOut("(+ (/ 1 6) (/ 1 10))", "4/15");
        worksOut("(+ (/ 1 6) (/ 1 3))", "1/2");
        worksOut("(+ (/ 1 2) (/ 1 -2))", "0");
        worksOut("(*)", "1");
        worksOut("(* -3)", "-3");
        worksOut("(* 2 (/ 3 4) -6)", "-9");
        worksOut("(* (/ 4 9) (/ 3 8))", "1/6");
        worksOut("(* 0 (/ -3 4))", "0");
        worksOut("(- 5)", "-5");
        worksOut("(- 0)", "0");
        worksOut("(- (/ -1 2))", "1/2");
        worksOut("(- 10 1 2 -3)", "10");
        worksOut("(- 1 2)", "-1");
        worksOut("(/ 4)", "1/4");
        worksOut("(/ -4)", "-1/4");
        worksOut("(/ (/ -2 3))", "-3/2");
        worksOut("(/ 0 5)", "0");
        worksOut("(/ 100 2 5 20)", "1/2");
        worksOut("(/ -6 -4)", "3/2");
        worksOut("(q 7 2)", "3");
        worksOut("(q -7 2)", "-3");
        worksOut("(q 7 -2)", "-3");
        worksOut("(q -7 -2)", "3");
        worksOut("(q -1 2)", "0");
        worksOut("(r 7 2)", "1");
        worksOut("(r -7 2)", "-1");
        worksOut("(r 7 -2)", "1");
        worksOut("(r -7 -2)", "-1");
        worksOut("(r -6 2)", "0");
        worksOut("(g)", "0");
        worksOut("(g 0)", "0");
        worksOut("(g -5)", "5");
        worksOut("(g 12 -18 0 30)", "6");
        worksOut("(g 4 9)", "1");
        worksOut("(^ 0 0)", "1");
        worksOut("(^ 0 64)", "0");
        worksOut("(^ -1 63)", "-1");
        worksOut("(^ -2 64)", "18446744073709551616");
        worksOut("(^ (/ -2 3) 3)", "-8/27");
        worksOut("(^ (/ 1 2) 0)", "1");
        worksOut("(^ 7 1)", "7");
        worksOut("(n (/ -6 4))", "-3");
        worksOut("(n -5)", "-5");
        worksOut("(d (/ -6 4))", "2");
        worksOut("(d -5)", "1");
        worksOut("(d 0)", "1");
        worksOut("(< 1 2)", "1");
        worksOut("(< 2 2)", "0");
        worksOut("(< 2 1)", "0");
        worksOut("(< -2 1)", "1");
        worksOut("(< -2 -1)", "1");
        worksOut("(< (/ -1 2) (/ -1 3))", "1");
        worksOut("(< (/ 1 2) (/ 1 3))", "0");
        worksOut("(= (/ 2 4) (/ 1 2))", "1");
        worksOut("(= 2 -2)", "0");
        worksOut("(= (- 0) 0)", "1");
        worksOut("(? 1 2 3)", "2");
        worksOut("(? 0 2 3)", "3");
        worksOut("(? (/ -1 2) 2 3)", "2");
        worksOut("(? 0 (/ 1 0) (? 1 4 (^ 2 99)))", "4");
        worksOut("(+ (? 1 5 (+ (+ 1 (q 1 0)) 2)) (? 0 (g (/ 1 2) (+)) 6) 7)", "18");
        worksOut("(? 1 2 " + "9".repeat(100) + ")", "2");
        worksOut("(+" + " 1".repeat(58) + ")", "58");
        worksOut("(*" + " -1".repeat(39) + ")", "-1");
        worksOut("(- ".repeat(12) + "1" + ")".repeat(12), "1");
    }

    private static void workedOutAtTheLimit() {
        String highest = Check.LIMIT.subtract(BigInteger.ONE).toString();
        worksOut(highest, highest);
        worksOut("-" + highest, "-" + highest);
        worksOut("0".repeat(40) + highest, highest);
        fails(Check.LIMIT.toString(), LARGE);
        fails("-" + Check.LIMIT, LARGE);
        fails("9".repeat(120), LARGE);
        worksOut("(/ " + highest + ")", "1/" + highest);
        worksOut("(/ -" + highest + ")", "-1/" + highest);
        worksOut("(- " + highest + ")", "-" + highest);
        worksOut("(+ -1 " + highest + ")", Check.LIMIT.subtract(BigInteger.TWO).toString());
        fails("(+ 1 " + highest + ")", LARGE);
        fails("(- -" + highest + " 1)", LARGE);
        fails("(/ " + highest + " (/ 1 2))", LARGE);
        fails("(/ (/ " + highest + ") 2)", LARGE);
        worksOut("(^ (^ 2 60) 3)", BigInteger.ONE.shiftLeft(180).toString());
        worksOut("(* (^ 2 64) (^ 2 64) (^ 2 64) (^ 2 47))", BigInteger.ONE.shiftLeft(239).toString());
        fails("(* (^ 2 64) (^ 2 64) (^ 2 64) (^ 2 48))", LARGE);
        fails("(* (^ 2 64) (^ 2 64) (^ 2 64) (^ -2 48))", LARGE);
        fails("(/ 1 (^ 2 64) (^ 2 64) (^ 2 64) (^ 2 48))", LARGE);
        fails("(^ (^ 2 40) 6)", LARGE);
        fails("(^ (/ 1 (^ 2 40)) 6)", LARGE);
        // Values on the way count, though the sum or product is small again.
        fails("(+ 1 " + highest + " -1)", LARGE);
        worksOut("(+ -1 " + highest + " 1)", highest);
        fails("(* " + highest + " 2 (/ 1 2))", LARGE);
        worksOut("(* " + highest + " (/ 1 2) 2)", highest);
        fails("(* (^ 2 64) (^ 2 64) (^ 2 64) (^ 2 64) 0)", LARGE);
        worksOut("(* 0 (^ 2 64) (^ 2 64) (^ 2 64) (^ 2 64))", "0");
        // What is cut before the value comes out does not count.
        PromotedNumbers x = new PromotedNumbers();
        Check.setVariable(x, 0, "(/ 1 " + highest + ")");
        Check.setVariable(x, 1, highest);
        evaluates(x, "(+ a a)", "2/" + highest);
        evaluates(x, "(* a b)", "1");
        evaluates(x, "(- a a)", "0");
        evaluates(x, "(= a a)", "1");
        evaluates(x, "(< a b)", "1");
        evaluates(x, "(< (- b) a)", "1");
        evaluates(x, "(q b -1)", "-" + highest);
        evaluates(x, "(r b b)", "0");
        evaluates(x, "(g b (- b))", highest);
        evaluates(x, "(d a)", highest);
        x.erase();
        Check.type(x, "(+ (/ b (- b 1)) (/ b (- b 2)))");
        Check.due("a sum of 481 bits", Check.work(x), LARGE);
        evaluates(x, "(- (/ b (- b 1)) (/ b (- b 1)))", "0");
    }

    private static void failures() {
        fails("(/ 0)", BY_ZERO);
        fails("(/ 1 0)", BY_ZERO);
        fails("(/ 0 0)", BY_ZERO);
        fails("(/ 1 2 0 3)", BY_ZERO);
        fails("(q 1 0)", BY_ZERO);
        fails("(r 1 0)", BY_ZERO);
        fails("(q (/ 1 2) 2)", UNFIT);
        fails("(q 2 (/ 1 2))", UNFIT);
        fails("(r (/ 1 2) 2)", UNFIT);
        fails("(r 2 (/ 1 2))", UNFIT);
        fails("(g (/ 1 2))", UNFIT);
        fails("(g 1 2 (/ 1 2))", UNFIT);
        fails("(^ 1 65)", UNFIT);
        fails("(^ 1 -1)", UNFIT);
        fails("(^ 1 (/ 1 2))", UNFIT);
        fails("(^ 1 (/ 64 63))", UNFIT);
        fails("(^ 1 1073741825)", UNFIT);
        fails("(^ 0 (^ 2 64))", UNFIT);
        fails("(? (/ 1 0) 1 2)", BY_ZERO);
        fails("(? 0 1 (/ 1 0))", BY_ZERO);
        fails("(? 1 (/ 1 0) 2)", BY_ZERO);
        fails("(? " + "9".repeat(100) + " 1 2)", LARGE);
        fails("(= (/ 1 0) (/ 1 0))", BY_ZERO);
        fails("(n (^ 2 65))", UNFIT);
    }

    private static void firstFailureCounts() {
        String large = "9".repeat(75);
        fails("(q (/ 1 2) 0)", UNFIT);
        fails("(r (/ 1 2) 0)", UNFIT);
        fails("(+ (/ 1 0) " + large + ")", BY_ZERO);
        fails("(+ " + large + " (/ 1 0))", LARGE);
        fails("(+ (q 1 (/ 1 2)) (/ 1 0))", UNFIT);
        // All arguments are worked out before anything is done with them.
        fails("(/ 1 0 " + large + ")", LARGE);
        fails("(g (/ 1 2) (/ 1 0))", BY_ZERO);
        fails("(q (/ 1 2) (/ 1 0))", BY_ZERO);
        fails("(^ (/ 1 0) 65)", BY_ZERO);
        fails("(^ 2 (/ 1 0))", BY_ZERO);
        fails("(* (^ 2 64) (^ 2 64) (^ 2 64) (^ 2 64) (/ 1 0))", BY_ZERO);
        fails("(* (^ 2 64) (^ 2 64) (^ 2 64) (^ 2 64) (^ 1 65))", UNFIT);
        // Then one step comes after the other.
        fails("(/ (^ 2 64) (/ (^ 2 64)) (/ (^ 2 64)) (/ (^ 2 64)) 0)", LARGE);
        fails("(/ (^ 2 64) 0 (/ (^ 2 64)) (/ (^ 2 64)) (/ (^ 2 64)))", BY_ZERO);
        fails("(^ (* (^ 2 64) (^ 2 64)) 65)", UNFIT);
    }

    private static void workChangesOnThrow() {
        PromotedNumbers x = Check.typed("(/ -22 7)");
        Check.due("work", Check.work(x), "2");
        String[] texts = {"(+", "", "(/ 1 0)", "(q 1 (/ 1 2))", "9".repeat(80)};
        String[] thrown = {NO_EXPRESSION, NO_EXPRESSION, BY_ZERO, UNFIT, LARGE};
        for (int i = 0; i < texts.length; i++) {
            x.erase();
            Check.type(x, texts[i]);
            Check.due("work " + texts[i], Check.work(x), thrown[i]);
            Check.due("work " + texts[i] + " again", Check.work(x), thrown[i]);
            Check.due("the result stays", Check.written(x), "-22/7");
            Check.due("the form stays", x.form(), 2);
            Check.due("the sign stays", x.sign(), -1);
            Check.due("the text stays", x.erase(), texts[i].length());
        }
    }

    private static void keep() {
        PromotedNumbers x = new PromotedNumbers();
        for (int v = 0; v < 8; v++) {
            Check.type(x, "(/ " + (v + 10) + " 100)");
            Check.due("keep " + v, Check.keep(x, v), "2");
            Check.due("the text is gone", x.erase(), 0);
            Check.due("the result is there, too", Check.against(x, v), "0");
        }
        evaluates(x, "(* 100 a)", "10");
        evaluates(x, "(* 100 h)", "17");
        evaluates(x, "(* 100 (+ a b c d e f g h))", "108");
        x.erase();
        Check.type(x, "(+ a a)");
        Check.due("keep of itself", Check.keep(x, 0), "2");
        evaluates(x, "a", "1/5");
        Check.due("work leaves variables alone", Check.fetch(x, 1), "2");
        Check.due("b", Check.written(x), "11/100");
    }

    private static void keepThrows() {
        PromotedNumbers x = new PromotedNumbers();
        Check.setVariable(x, 3, "(/ 5 3)");
        String[] texts = {"(+", "", "(/ d 0)", "(q d 1)", "9".repeat(80), "d"};
        String[] thrown = {NO_EXPRESSION, NO_EXPRESSION, BY_ZERO, UNFIT, LARGE, ""};
        for (int i = 0; i < texts.length; i++) {
            Check.type(x, texts[i]);
            if (!thrown[i].isEmpty()) {
                Check.due("keep " + texts[i], Check.keep(x, 3), thrown[i]);
            }
            for (int v : NO_VARIABLES) {
                Check.due("keep at " + v, Check.keep(x, v), NO_VARIABLE);
            }
            Check.due("the variable stays", Check.against(x, 3), "0");
            Check.due("the result stays", Check.written(x), "5/3");
            Check.due("the text stays", x.erase(), texts[i].length());
        }
    }

    private static void form() {
        formOf("4611686018427387903", 0);
        formOf("-4611686018427387903", 0);
        formOf("4611686018427387904", 1);
        formOf("-4611686018427387904", 1);
        formOf("1152921504606846976", 0);
        formOf("1073741824", 0);
        formOf("(^ 2 64)", 1);
        formOf("(/ 1 2)", 2);
        formOf("(/ (^ 3 64) 2)", 2);
        formOf("(/ 4 2)", 0);
        formOf("(/ (^ 2 64) 4)", 1);
        formOf("(/ (^ 2 64) 8)", 0);
        formOf("(- (^ 2 62) 1)", 0);
    }

    private static void sign() {
        String[] texts = {"-3", "(/ -1 3)", "0", "-0", "(- 1 1)", "3", "(/ 1 3)", "(- (^ 2 64))", "(* -1 0)"};
        int[] signs = {-1, -1, 0, 0, 0, 1, 1, -1, 0};
        for (int i = 0; i < texts.length; i++) {
            Check.due("sign of " + texts[i], worked(texts[i]).sign(), signs[i]);
        }
    }

    private static void digit() {
        PromotedNumbers x = worked("(/ -1002 70)");
        String due = "-501/35";
        for (int i = 0; i < due.length(); i++) {
            Check.due("digit " + i, x.digit(i), due.charAt(i));
        }
        for (int i : new int[] {7, 8, 148, 149, Integer.MAX_VALUE, -1, Integer.MIN_VALUE}) {
            Check.due("digit " + i, x.digit(i), (char) 0);
        }
        String highest = Check.LIMIT.subtract(BigInteger.ONE).toString();
        x = new PromotedNumbers();
        Check.setVariable(x, 0, highest);
        evaluates(x, "(/ (- 1 a) a)", "-" + Check.LIMIT.subtract(BigInteger.TWO) + "/" + highest);
        Check.due("the longest number's end", x.digit(147), '5');
        Check.due("behind it", x.digit(148), (char) 0);
        evaluates(x, "10", "10");
        Check.due("nothing stays of a longer one", x.digit(2), (char) 0);
        worksOut("1000000000000000000000000000000", "1000000000000000000000000000000");
        worksOut("(/ 1 1000000000)", "1/1000000000");
    }

    private static void bits() {
        BigInteger n = new BigInteger("8123456789abcdef0fedcba98765432189abcdef01234567fedcba98765", 16);
        BigInteger d = BigInteger.ONE.shiftLeft(239).add(BigInteger.ONE);
        PromotedNumbers x = new PromotedNumbers();
        Check.setVariable(x, 0, n.toString());
        Check.setVariable(x, 1, d.toString());
        BigInteger common = n.gcd(d);
        evaluates(x, "(- (/ a b))", "-" + n.divide(common) + "/" + d.divide(common));
        for (int i = 0; i < 12; i++) {
            Check.due("n's bits " + i, x.bits(0, i), n.divide(common).shiftRight(32 * i).intValue());
            for (int part : new int[] {1, 2, -1, Integer.MIN_VALUE, Integer.MAX_VALUE}) {
                Check.due("d's bits " + i, x.bits(part, i), d.divide(common).shiftRight(32 * i).intValue());
            }
        }
        int[] outside = {-1, -2, Integer.MIN_VALUE, Integer.MAX_VALUE, 1 << 27, 1 << 28, (1 << 27) + 1, -(1 << 27)};
        for (int i : outside) {
            Check.due("n's bits " + i, x.bits(0, i), 0);
            Check.due("d's bits " + i, x.bits(1, i), 0);
        }
        x = worked(Check.LIMIT.subtract(BigInteger.ONE).toString());
        Check.due("highest, 0", x.bits(0, 0), -1);
        Check.due("highest, 6", x.bits(0, 6), -1);
        Check.due("highest, 7", x.bits(0, 7), 0xffff);
        Check.due("highest, 8", x.bits(0, 8), 0);
        Check.due("a whole number's d", x.bits(1, 0), 1);
        Check.due("0's n", worked("0").bits(0, 0), 0);
        Check.due("0's d", worked("0").bits(5, 0), 1);
    }

    private static void against() {
        String[] rising = {"(- (^ 2 64))", "-3", "(/ -5 2)", "(/ -1 3)", "0", "(/ 1 3)", "(/ 1 2)", "(^ 3 64)"};
        PromotedNumbers x = new PromotedNumbers();
        for (int v = 0; v < 8; v++) {
            Check.setVariable(x, v, rising[v]);
        }
        for (int i = 0; i < 8; i++) {
            Check.fetch(x, i);
            for (int v = 0; v < 8; v++) {
                Check.due(rising[i] + " against " + rising[v], x.against(v), Integer.compare(i, v));
            }
        }
        for (int v : NO_VARIABLES) {
            Check.due("against " + v, Check.against(x, v), NO_VARIABLE);
        }
        String highest = Check.LIMIT.subtract(BigInteger.ONE).toString();
        String next = Check.LIMIT.subtract(BigInteger.TWO).toString();
        x = new PromotedNumbers();
        Check.setVariable(x, 0, highest);
        Check.setVariable(x, 1, "(/ " + next + " a)");
        Check.setVariable(x, 2, "(/ (- " + next + " 1) (- a 1))");
        Check.due("cross products decide", Check.against(x, 1), "-1");
        Check.fetch(x, 1);
        Check.due("cross products decide", Check.against(x, 2), "1");
    }

    private static void fetch() {
        PromotedNumbers x = new PromotedNumbers();
        Check.setVariable(x, 0, "(/ -7 2)");
        Check.setVariable(x, 1, "(^ 2 62)");
        Check.setVariable(x, 7, "12");
        Check.type(x, "(+ a");
        Check.work(x);
        Check.due("fetch 0", Check.fetch(x, 0), "2");
        Check.due("written", Check.written(x), "-7/2");
        Check.due("sign", x.sign(), -1);
        Check.due("fetch 1", Check.fetch(x, 1), "1");
        Check.due("written", Check.written(x), "4611686018427387904");
        Check.due("fetch 7", Check.fetch(x, 7), "0");
        for (int v : NO_VARIABLES) {
            Check.due("fetch " + v, Check.fetch(x, v), NO_VARIABLE);
            Check.due("the result stays", Check.written(x), "12");
        }
        Check.due("fetch 6", Check.fetch(x, 6), "0");
        Check.due("written", Check.written(x), "0");
        Check.due("the fault stays", x.fault(), 4);
        Check.due("the text stays", x.erase(), 4);
        Check.due("the variable stays", Check.fetch(x, 0), "2");
        evaluates(x, "(+ 1 a)", "-5/2");
        Check.due("a variable is no view of the result", Check.against(x, 0), "1");
    }

    private static PromotedNumbers worked(String text) {
        PromotedNumbers x = Check.typed(text);
        Check.due("work " + text + " answers the form", Check.work(x), String.valueOf(x.form()));
        return x;
    }

    private static String valueOf(String text) {
        return Check.written(worked(text));
    }

    private static void worksOut(String text, String value) {
        Check.due(text, valueOf(text), value);
    }

    private static void evaluates(PromotedNumbers x, String text, String value) {
        x.erase();
        Check.type(x, text);
        String form = Check.work(x);
        Check.due("work " + text + " answers the form", form, String.valueOf(x.form()));
        Check.due(text, Check.written(x), value);
    }

    private static void fails(String text, String exception) {
        PromotedNumbers x = Check.typed(text);
        Check.due("work " + text, Check.work(x), exception);
        Check.due("fault of " + text, x.fault(), PromotedNumbers.NONE);
        Check.due("keep " + text, Check.keep(x, 7), exception);
    }

    private static void formOf(String text, int form) {
        PromotedNumbers x = Check.typed(text);
        Check.due("work " + text, Check.work(x), String.valueOf(form));
        Check.due("form of " + text, x.form(), form);
        Check.due("keep " + text, Check.keep(x, 0), String.valueOf(form));
        Check.due("fetch of " + text, Check.fetch(x, 0), String.valueOf(form));
    }

    private static void faultOf(String text, int fault) {
        PromotedNumbers x = Check.typed(text);
        Check.due("work " + text, Check.work(x), NO_EXPRESSION);
        Check.due("fault of " + text, x.fault(), fault);
        Check.due("keep " + text, Check.keep(x, 0), NO_EXPRESSION);
        Check.due("the text stays", x.erase(), text.length());
    }

    private static void noFault(String text) {
        PromotedNumbers x = Check.typed(text);
        Check.work(x);
        Check.due("fault of " + text, x.fault(), PromotedNumbers.NONE);
    }
}
