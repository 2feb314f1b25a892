import java.math.BigInteger;

/**
 * The document's Terms up to the table of characters, and the fault: a test for each sentence, on both
 * sides of each boundary that it names.
 */
public final class TermsTest {
    private static final String OPERATORS = "+*-/qrg^nd<=?";
    private static final String FEWEST = "0011220211223";
    /** 9 stands for any number. */
    private static final String MOST = "9999229211223";
    private static final String DIGITS = "0123456789";
    private static final String LETTERS = "abcdefgh";
    private static final int[] NO_VARIABLES = {-1, 8, 9, 15, 256, 1 << 31, Integer.MAX_VALUE};

    private TermsTest() {
    }

    public static void main(String[] args) {
        exactly();
        growing();
        keptInLowestTerms();
        oneForm();
        lowestTerms();
        whole();
        amountTooLarge();
        bottomTooLarge();
        onlyLowestTermsCount();
        small();
        large();
        broken();
        variables();
        room();
        nothingAround();
        digits();
        minusAndDigits();
        zerosInFront();
        letters();
        bracketsAndBlanks();
        charactersOfTheTable();
        openAtATime();
        firstWrongCharacter();
        wrongBehindAnything();
        mayStillBecomeRight();
        closedTooEarly();
        argumentTooMany();
        thirteenthOpen();
        asTheirCommentsSay();
        firstNamed();
        Check.end();
    }

    private static void exactly() {
        Check.sentence("What it is", "Works out expressions over whole numbers and fractions exactly");
        Check.works("(+ (/ 1 10) (/ 2 10))", "3/10");
        Check.works("(* 3 (/ 1 3))", "1");
        Check.works("(- (/ 1 3) (/ 333333333333333333 (^ 10 18)))", "1/3000000000000000000");
        Check.works("(- (+ (^ 10 60) 1) (^ 10 60))", "1");
        Check.works("(* (/ (^ 10 64)) (^ 10 64))", "1");
        Check.works("(+ (/ 1 (^ 10 64)) 1)", "1" + "0".repeat(63) + "1/1" + "0".repeat(64));
        Check.works("(+ (/ 1) (/ 2) (/ 3) (/ 4) (/ 5) (/ 6) (/ 7) (/ 8) (/ 9) (/ 10))", "7381/2520");
        Check.works("(^ (/ 7 5) 20)", "79792266297612001/95367431640625");
        Check.works("(= a (+ (* (q a b) b) (r a b)))", "1", "-" + Check.HIGHEST, Check.power(97, -3));
        Check.works("(= a (/ (* a b) b))", "1", "(/ -" + Check.power(119, -1) + " 7)", "(/ 3 " + Check.power(118) + ")");
        Check.works("(= a (- (+ a b) b))", "1", "(/ -" + Check.power(119, -1) + " 7)", "(/ 3 " + Check.power(116) + ")");
    }

    private static void growing() {
        Check.sentence("What it is", "small numbers grow into large ones when they must");
        for (int bits : new int[] {15, 16, 29, 30, 31, 32, 59, 60, 61, 62, 63, 64, 90, 128, 239}) {
            String power = Check.power(bits);
            String below = Check.power(bits, -1);
            Check.works("(+ a 1)", power, below);
            Check.works("(- a 1)", "-" + power, "-" + below);
            Check.works("(- a 1)", below, power);
            Check.works("(+ a a)", power, Check.power(bits - 1));
            Check.works("(* a 2)", "-" + power, "-" + Check.power(bits - 1));
            Check.works("(* a b)", power, Check.power(bits / 2), Check.power(bits - bits / 2));
            Check.works("(/ a (/ 1 2))", power, Check.power(bits - 1));
        }
    }

    private static void keptInLowestTerms() {
        Check.sentence("What it is", "fractions are kept in lowest terms");
        PromotedNumbers x = Check.typed("", "(/ -84 126)", "(+ a (/ 1 6))", "(* a (/ 9 4))", "(/ a (/ 8 9))");
        int[] tops = {2, 1, 3, 3};
        int[] bottoms = {3, 2, 2, 4};
        for (int v = 0; v < 4; v++) {
            Check.fetch(x, v);
            Check.due("n of variable " + v, x.bits(0, 0), tops[v]);
            Check.due("d of variable " + v, x.bits(1, 0), bottoms[v]);
            Check.due("written", Check.written(x), "-" + tops[v] + "/" + bottoms[v]);
        }
        Check.works("(n a)", "-2", "(/ -84 126)");
        Check.works("(d a)", "3", "(/ -84 126)");
        // Only if it is cut at each step does it stay below 2^240.
        Check.works("(*" + " a b".repeat(20) + ")", "1", "(/ " + Check.power(90) + " 3)", "(/ 3 " + Check.power(90) + ")");
        Check.works("(+" + " a".repeat(50) + ")", "50/" + Check.power(239, -1), "(/ " + Check.power(239, -1) + ")");
    }

    private static void oneForm() {
        Check.sentence("What it is", "every value has just one form");
        alike("0", "-0", "(+)", "(- 5 5)", "(/ 0 -3)", "(* 0 (- (^ 2 64)))", "(- (/ 1 2) (/ 1 2))", "(r -6 2)");
        alike("2", "(/ -4 -2)", "(q (^ 2 64) (^ 2 63))", "(- (^ 2 64) (- (^ 2 64) 2))", "(* (/ 2 3) 3)", "(g -2)");
        alike("4611686018427387903", "(- (^ 2 62) 1)", "(q (- (^ 2 64) 1) 4)", "(- (/ (- (^ 2 63) 2) -2))");
        alike("4611686018427387904", "(^ 2 62)", "(+ 4611686018427387903 1)", "(/ (^ 2 64) 4)", "(- (/ (^ 2 63) -2))");
        alike("(/ 1 2)", "(/ -1 -2)", "(/ (^ 2 63) (^ 2 64))", "(- 1 (/ 1 2))", "(* 3 (/ 1 6))", "(/ (/ 4 2))");
        alike("(/ -3 2)", "(/ 3 -2)", "(- (/ 3 2))", "(- (/ 1 2) 2)", "(/ (* -3 (^ 2 63)) (^ 2 64))");
    }

    private static void alike(String first, String... others) {
        PromotedNumbers x = Check.typed(first);
        Check.keep(x, 0);
        for (String text : others) {
            PromotedNumbers y = Check.typed(text, first);
            Check.due("work " + text, Check.work(y), String.valueOf(x.form()));
            Check.due("sign of " + text, y.sign(), x.sign());
            Check.due("digits of " + text, Check.written(y), Check.written(x));
            Check.due("against of " + text, Check.against(y, 0), "0");
            for (int i = 0; i < 3; i++) {
                Check.due("n's bits of " + text, y.bits(0, i), x.bits(0, i));
                Check.due("d's bits of " + text, y.bits(1, i), x.bits(1, i));
            }
        }
    }

    private static void lowestTerms() {
        Check.sentence("Term: lowest terms", "d is above 0, and no whole number above 1 divides both");
        Check.works("(/ 9 4)", "9/4");
        Check.works("(/ 10 4)", "5/2");
        Check.works("(/ 1 -2)", "-1/2");
        Check.works("(/ -1 -2)", "1/2");
        Check.works("(/ -1 2)", "-1/2");
        Check.works("(/ -2)", "-1/2");
        Check.works("(/ 0 -7)", "0");
        Check.works("(+ (/ 1 6) (/ 1 3))", "1/2");
        Check.works("(+ (/ 1 6) (/ 1 5))", "11/30");
        Check.works("(- (/ 5 6) (/ 1 3))", "1/2");
        Check.works("(- (/ 5 6) (/ 5 6))", "0");
        Check.works("(* (/ 4 9) (/ 3 8))", "1/6");
        Check.works("(* (/ 4 9) (/ 5 7))", "20/63");
        Check.works("(/ (/ 4 9) (/ -8 3))", "-1/6");
        Check.works("(^ (/ 6 4) 2)", "9/4");
        Check.works("(/ a b)", "1/1024", Check.power(90), Check.power(100));
        Check.works("(/ a b)", "7/3", new BigInteger(Check.power(200)).multiply(BigInteger.valueOf(7)).toString(),
                new BigInteger(Check.power(200)).multiply(BigInteger.valueOf(3)).toString());
        Check.works("(/ a (- a 1))", Check.HIGHEST + "/" + Check.power(240, -2), Check.HIGHEST);
    }

    private static void whole() {
        Check.sentence("Term: whole", "it is WHOLE when d is 1");
        Check.works("(d (/ 4 2))", "1");
        Check.works("(d (/ 5 2))", "2");
        Check.works("(q (/ 4 2) 1)", "2");
        Check.fails("(q (/ 5 2) 1)", Check.UNFIT);
        Check.works("(g (/ -4 2))", "2");
        Check.works("(g (/ 0 2))", "0");
        Check.fails("(g (/ -5 2))", Check.UNFIT);
        Check.works("(q (+ (/ 1 2) (/ 1 2)) 1)", "1");
        Check.fails("(q (+ (/ 1 2) (/ 1 3)) 1)", Check.UNFIT);
    }

    private static void amountTooLarge() {
        Check.sentence("Term: too large", "It is TOO LARGE when the amount of n .. is 2^240 or more");
        String highest = Check.HIGHEST;
        Check.works(highest, highest);
        Check.fails(Check.power(240), Check.TOO_LARGE);
        Check.fails(Check.power(240, 1), Check.TOO_LARGE);
        Check.works("-" + highest, "-" + highest);
        Check.fails("-" + Check.power(240), Check.TOO_LARGE);
        Check.works("(+ a 1)", highest, Check.power(240, -2));
        Check.fails("(+ a 1)", Check.TOO_LARGE, highest);
        Check.works("(- a 1)", "-" + highest, "-" + Check.power(240, -2));
        Check.fails("(- a 1)", Check.TOO_LARGE, "-" + highest);
        Check.works("(- a)", "-" + highest, highest);
        Check.works("(* a 2)", Check.power(240, -2), Check.power(239, -1));
        Check.fails("(* a 2)", Check.TOO_LARGE, Check.power(239));
        Check.works("(* a b)", Check.power(239), Check.power(119), Check.power(120));
        Check.fails("(* a b)", Check.TOO_LARGE, Check.power(120), "-" + Check.power(120));
        Check.works("(/ a (/ 1 2))", Check.power(240, -2), Check.power(239, -1));
        Check.fails("(/ a (/ 1 2))", Check.TOO_LARGE, Check.power(239));
        Check.works("(+ a 1)", highest + "/2", "(/ " + Check.power(240, -3) + " 2)");
        Check.fails("(+ a 1)", Check.TOO_LARGE, "(/ " + highest + " 2)");
        Check.fails("(- a 1)", Check.TOO_LARGE, "(/ -" + highest + " 2)");
    }

    private static void bottomTooLarge() {
        Check.sentence("Term: too large", "or d, is 2^240 or more");
        Check.works("(/ a)", "1/" + Check.HIGHEST, Check.HIGHEST);
        Check.works("(/ a)", "-1/" + Check.HIGHEST, "-" + Check.HIGHEST);
        Check.works("(/ a 2)", "1/" + Check.power(239), "(/ " + Check.power(238) + ")");
        Check.fails("(/ a 2)", Check.TOO_LARGE, "(/ " + Check.power(239) + ")");
        Check.works("(* a b)", "1/" + Check.power(239), "(/ " + Check.power(119) + ")", "(/ " + Check.power(120) + ")");
        Check.fails("(* a a)", Check.TOO_LARGE, "(/ " + Check.power(120) + ")");
        String sum = Check.power(121, -1) + "/"
                + new BigInteger(Check.power(120)).multiply(new BigInteger(Check.power(120, -1)));
        Check.works("(+ a b)", sum, "(/ " + Check.power(120) + ")", "(/ " + Check.power(120, -1) + ")");
        Check.fails("(+ a b)", Check.TOO_LARGE, "(/ " + Check.power(120) + ")", "(/ " + Check.power(120, 1) + ")");
        Check.fails("(- a b)", Check.TOO_LARGE, "(/ " + Check.power(120) + ")", "(/ " + Check.power(120, 1) + ")");
        Check.fails("(+ (/ a (- a 1)) (/ a (- a 2)))", Check.TOO_LARGE, Check.HIGHEST);
    }

    private static void onlyLowestTermsCount() {
        Check.sentence("Term: too large", "a fraction n / d in LOWEST TERMS .. is TOO LARGE when");
        String part = "(/ " + Check.HIGHEST + ")";
        Check.works("(+ a a)", "2/" + Check.HIGHEST, part);
        Check.works("(- a a)", "0", part);
        Check.works("(* a b)", "1", part, Check.HIGHEST);
        Check.works("(/ a a)", "1", part);
        Check.works("(/ b b)", "1", "0", Check.HIGHEST);
        Check.works("(+ a a)", Check.HIGHEST, "(/ " + Check.HIGHEST + " 2)");
        Check.works("(/ a b)", Check.power(120, 1) + "/3", Check.HIGHEST, "(* 3 " + Check.power(120, -1) + ")");
        Check.works("(= a a)", "1", part);
        Check.works("(< a b)", "1", part, Check.HIGHEST);
        Check.works("(< (- b) a)", "1", part, Check.HIGHEST);
    }

    private static void small() {
        Check.sentence("Term: form", "0, SMALL, when it is whole and its amount below 2^62");
        formOf("0", 0);
        formOf("-0", 0);
        formOf("1", 0);
        formOf("-1", 0);
        for (int bits : new int[] {29, 30, 31, 32, 59, 60, 61}) {
            formOf(Check.power(bits), 0);
            formOf("-" + Check.power(bits), 0);
        }
        formOf("4611686018427387903", 0);
        formOf("-4611686018427387903", 0);
        formOf("(- (^ 2 62) 1)", 0);
        formOf("(- 1 (^ 2 62))", 0);
        formOf("(/ (^ 2 62) 2)", 0);
        formOf("(q (^ 2 64) 5)", 0);
        formOf("(- (^ 2 64) (^ 2 64))", 0);
    }

    private static void large() {
        Check.sentence("Term: form", "1, LARGE, when it is whole and not small");
        formOf("4611686018427387904", 1);
        formOf("-4611686018427387904", 1);
        formOf("(+ 4611686018427387903 1)", 1);
        formOf("(- -4611686018427387903 1)", 1);
        formOf("(* (^ 2 31) (^ 2 31))", 1);
        for (int bits : new int[] {63, 64, 90, 120, 239}) {
            formOf(Check.power(bits), 1);
            formOf("-" + Check.power(bits), 1);
        }
        formOf(Check.HIGHEST, 1);
        formOf("-" + Check.HIGHEST, 1);
        formOf("(/ (^ 2 64) 4)", 1);
    }

    private static void broken() {
        Check.sentence("Term: form", "2, BROKEN, when it is not whole");
        formOf("(/ 1 2)", 2);
        formOf("(/ -1 2)", 2);
        formOf("(/ 2 2)", 0);
        formOf("(/ (^ 3 64) 2)", 2);
        formOf("(/ (^ 3 64) 3)", 1);
        formOf("(/ (^ 2 64))", 2);
        formOf("(/ " + Check.HIGHEST + ")", 2);
        formOf("(/ " + Check.HIGHEST + " 2)", 2);
    }

    private static void formOf(String text, int form) {
        PromotedNumbers x = Check.typed(text);
        Check.due("work " + text, Check.work(x), String.valueOf(form));
        Check.due("form of " + text, x.form(), form);
        Check.due("keep " + text, Check.keep(x, 0), String.valueOf(form));
        Check.due("form of " + text + ", kept", x.form(), form);
        Check.due("fetch of " + text, Check.fetch(x, 0), String.valueOf(form));
        Check.due("form of " + text + ", fetched", x.form(), form);
    }

    private static void variables() {
        Check.sentence("Term: variables", "VARIABLES are 0 .. 7, at first 0");
        for (int v = 0; v < 8; v++) {
            PromotedNumbers x = Check.typed("5");
            Check.due("against " + v, Check.against(x, v), "0");
            Check.due("fetch " + v, Check.fetch(x, v), "0");
            Check.due("its content", Check.written(x), "0");
            Check.due("keep " + v, Check.keep(x, v), "0");
            Check.works(String.valueOf(LETTERS.charAt(v)), "0");
        }
        for (int v : NO_VARIABLES) {
            PromotedNumbers x = Check.typed("5");
            Check.due("against " + v, Check.against(x, v), Check.NO_VARIABLE);
            Check.due("fetch " + v, Check.fetch(x, v), Check.NO_VARIABLE);
            Check.due("keep " + v, Check.keep(x, v), Check.NO_VARIABLE);
        }
    }

    private static void room() {
        Check.sentence("Term: the text", "THE TEXT has up to 120 characters, none at first");
        Check.due("a new text", new PromotedNumbers().erase(), 0);
        PromotedNumbers x = Check.typed("0".repeat(119));
        Check.due("the 120th", x.type('7'), true);
        Check.due("the 121st", x.type('8'), false);
        Check.due("work", Check.work(x), "0");
        Check.due("120 characters", Check.written(x), "7");
        Check.due("erase", x.erase(), 120);
        Check.works("(+" + " 1".repeat(58) + ")", "58");
        Check.works("(+" + " 1".repeat(57) + " 10)", "67");
        Check.faultAt("(+" + " 1".repeat(59), 120);
    }

    private static void nothingAround() {
        Check.sentence("Term: an expression", "with nothing before or behind it");
        String[] expressions = {"1", "-12", "h", "(+)", "(+ 1 2)"};
        for (String text : expressions) {
            Check.noFault(text);
            Check.faultAt(" " + text, 0);
            Check.faultAt(")" + text, 0);
            Check.faultAt("+" + text, 0);
            Check.faultAt(text + " ", text.length());
            Check.faultAt(text + ")", text.length());
            Check.faultAt(text + "(", text.length());
            Check.faultAt(text + " 1", text.length());
            Check.faultAt(text + "a", text.length());
        }
    }

    private static void digits() {
        Check.sentence("Term: an expression", "one or more digits 0 .. 9 .. that whole number");
        Check.faultAt("", 0);
        for (char c = '0'; c <= '9'; c++) {
            Check.works(String.valueOf(c), String.valueOf(c));
        }
        Check.works("9876543210", "9876543210");
        Check.faultAt("/", 0);
        Check.faultAt(":", 0);
        Check.faultAt("1/", 1);
        Check.faultAt("1:", 1);
        Check.faultAt("1.", 1);
        Check.faultAt("(+ 1/2)", 4);
        for (int bits : new int[] {29, 30, 31, 32, 59, 60, 61, 62, 63, 64, 89, 90, 120, 239}) {
            for (int more = -1; more <= 1; more++) {
                Check.works(Check.power(bits, more), Check.power(bits, more));
            }
        }
    }

    private static void minusAndDigits() {
        Check.sentence("Term: an expression", "- and one or more digits: that whole number");
        Check.works("-1", "-1");
        Check.works("-10", "-10");
        Check.works("-0", "0");
        Check.faultAt("-", 1);
        Check.faultAt("--1", 1);
        Check.faultAt("- 1", 1);
        Check.faultAt("-a", 1);
        Check.faultAt("-(+)", 1);
        Check.faultAt("1-", 1);
        Check.faultAt("+1", 0);
        Check.faultAt("(+ -)", 4);
        Check.faultAt("(+ - 1)", 4);
        Check.works("(+ -1)", "-1");
        Check.works("(- -1)", "1");
        Check.faultAt("(-1)", 2);
    }

    private static void zerosInFront() {
        Check.sentence("Term: an expression", "zeros in front do not matter");
        Check.works("00", "0");
        Check.works("-00", "0");
        Check.works("007", "7");
        Check.works("-007", "-7");
        Check.works("0100", "100");
        Check.works("0".repeat(120), "0");
        Check.works("0".repeat(119) + "1", "1");
        Check.works("-" + "0".repeat(118) + "1", "-1");
        Check.works("0".repeat(47) + Check.HIGHEST, Check.HIGHEST);
        Check.fails("0".repeat(47) + Check.power(240), Check.TOO_LARGE);
        Check.works("-" + "0".repeat(46) + Check.HIGHEST, "-" + Check.HIGHEST);
        Check.works("(^ 2 0000000000000064)", "18446744073709551616");
    }

    private static void letters() {
        Check.sentence("Term: an expression", "a letter a .. h: the content of variable 0 .. 7");
        for (int v = 0; v < 8; v++) {
            PromotedNumbers x = new PromotedNumbers();
            Check.setVariable(x, v, "(/ -7 3)");
            for (int other = 0; other < 8; other++) {
                Check.type(x, String.valueOf(LETTERS.charAt(other)));
                Check.work(x);
                String due = other == v ? "-7/3" : "0";
                Check.due(LETTERS.charAt(other) + ", " + v + " being -7/3", Check.written(x), due);
                x.erase();
            }
        }
        Check.faultAt("`", 0);
        Check.faultAt("i", 0);
        Check.faultAt("A", 0);
        Check.faultAt("H", 0);
        Check.faultAt("ab", 1);
        Check.faultAt("a1", 1);
        Check.faultAt("1a", 1);
        // d and g are variables and characters of the table.
        Check.works("(d d)", "3", "0", "0", "0", "(/ 2 3)");
        Check.works("(g g d)", "6", "0", "0", "0", "12", "0", "0", "18");
    }

    private static void bracketsAndBlanks() {
        Check.sentence("Term: an expression",
                "or (, one of the characters below, for each ARGUMENT one blank and an expression, and )");
        Check.works("(+ 1 2)", "3");
        Check.works("(+ (+ 1) (+))", "1");
        Check.faultAt("(+1 2)", 2);
        Check.faultAt("(+(+))", 2);
        Check.faultAt("(+  1 2)", 3);
        Check.faultAt("(+ 1  2)", 5);
        Check.faultAt("(+ 1 2 )", 7);
        Check.faultAt("(+ )", 3);
        Check.faultAt("( + 1)", 1);
        Check.faultAt("()", 1);
        Check.faultAt("((+))", 1);
        Check.faultAt("(1 2)", 1);
        Check.faultAt("(a 1)", 1);
        Check.faultAt("(++)", 2);
        Check.faultAt("(+ +)", 3);
        Check.faultAt("(+ 1(+))", 4);
        Check.faultAt("(+ (+)1)", 6);
        Check.faultAt("(+ (+)(+))", 6);
        Check.faultAt("(+ 1,2)", 4);
    }

    private static void charactersOfTheTable() {
        Check.sentence("Term: an expression", "one of the characters below");
        for (char c = 32; c <= 126; c++) {
            Check.faultAt("(" + c, OPERATORS.indexOf(c) >= 0 ? 2 : 1);
        }
    }

    private static void openAtATime() {
        Check.sentence("Term: to work out", "At most 12 brackets ( are open at a time");
        Check.works("(+ ".repeat(11) + "(+ 1)" + ")".repeat(11), "1");
        Check.faultAt("(+ ".repeat(12) + "(+ 1)" + ")".repeat(12), 36);
        Check.works("(- ".repeat(12) + "5" + ")".repeat(12), "5");
        Check.works("(+ ".repeat(11) + "(+ 1) (+ 2) (* 3)" + ")".repeat(11), "6");
        Check.works("(+" + " (+ (*))".repeat(14) + ")", "14");
        Check.faultAt("(+ ".repeat(11) + "(+ 1) (+ (+))" + ")".repeat(11), 42);
        Check.works("(? 1 2 " + "(+ ".repeat(11) + "3" + ")".repeat(12), "2");
        Check.faultAt("(? 1 2 " + "(+ ".repeat(12) + "3" + ")".repeat(13), 40);
    }

    /** Every character behind every kind of beginning: right, or wrong at its own place. */
    private static void firstWrongCharacter() {
        Check.sentence("Term: the fault", "the place (from 0) of the first character that can't stand where it does");
        String start = DIGITS + LETTERS + "-(";
        fitBehind("", start);
        fitBehind("-", DIGITS);
        fitBehind("-0", DIGITS);
        fitBehind("1", DIGITS);
        fitBehind("a", "");
        fitBehind("(", OPERATORS);
        fitBehind("(+", " )");
        fitBehind("(-", " ");
        fitBehind("(n", " ");
        fitBehind("(? ", start);
        fitBehind("(+ ", start);
        fitBehind("(+ -", DIGITS);
        fitBehind("(+ 1", DIGITS + " )");
        fitBehind("(+ a", " )");
        fitBehind("(n 1", DIGITS + ")");
        fitBehind("(q 1", DIGITS + " ");
        fitBehind("(q a a", ")");
        fitBehind("(+ (", OPERATORS);
        fitBehind("(+ (+)", " )");
        fitBehind("(+ 1)", "");
        fitBehind("(+ (+))", "");
        Check.faultAt("x(", 0);
        Check.faultAt("(+ 1 x y)", 5);
        Check.faultAt("(+ 1 (/ 2 0", 11);
    }

    private static void fitBehind(String before, String fit) {
        for (char c = 32; c <= 126; c++) {
            PromotedNumbers x = Check.typed(before + c + "~");
            Check.due("work " + before + c + "~", Check.work(x), Check.NO_EXPRESSION);
            Check.due("the fault of " + before + c + "~", x.fault(), before.length() + (fit.indexOf(c) >= 0 ? 1 : 0));
        }
    }

    private static void wrongBehindAnything() {
        Check.sentence("Term: the fault", "the first character that can't stand where it does");
        String longest = "(+" + " 1".repeat(58) + ")";
        Check.noFault(longest);
        for (int place = 0; place < longest.length(); place++) {
            Check.faultAt(longest.substring(0, place) + "~" + longest.substring(place + 1), place);
        }
    }

    private static void mayStillBecomeRight() {
        Check.sentence("Term: the fault",
                "a character that may still become right is not wrong: the place behind the last one if the text ends "
                + "too early");
        String text = "(? (< a -12) (/ 1 (^ 2 3) 4) (g))";
        Check.noFault(text);
        for (int end = 0; end < text.length(); end++) {
            Check.faultAt(text.substring(0, end), end);
        }
        Check.faultAt("(+ ".repeat(12), 36);
        Check.faultAt("(+ ".repeat(12) + "1" + ")".repeat(11), 48);
        Check.faultAt("(n ".repeat(8) + "0".repeat(96), 120);
        Check.faultAt("(- 1 " + "2".repeat(114) + " ", 120);
    }

    private static void closedTooEarly() {
        Check.sentence("Term: the fault", "the wrong number of arguments is told at the ) that comes too early");
        for (int i = 0; i < OPERATORS.length(); i++) {
            int fewest = FEWEST.charAt(i) - '0';
            for (int count = 0; count < fewest; count++) {
                Check.faultAt("(" + OPERATORS.charAt(i) + " 1".repeat(count) + ")", 2 + 2 * count);
                Check.faultAt("(" + OPERATORS.charAt(i) + " 1".repeat(count) + ") x", 2 + 2 * count);
                Check.faultAt("(+ (" + OPERATORS.charAt(i) + " (+ 1)".repeat(count) + "))", 5 + 6 * count);
            }
            Check.noFault("(" + OPERATORS.charAt(i) + " 1".repeat(fewest) + ")");
            Check.noFault("(+ (" + OPERATORS.charAt(i) + " (+ 1)".repeat(fewest) + "))");
        }
        Check.faultAt("(? 0 (q 1) 3)", 9);
    }

    private static void argumentTooMany() {
        Check.sentence("Term: the fault", "or at the blank before the argument that is one too many");
        for (int i = 0; i < OPERATORS.length(); i++) {
            int most = MOST.charAt(i) == '9' ? 58 : MOST.charAt(i) - '0';
            Check.noFault("(" + OPERATORS.charAt(i) + " 1".repeat(most) + ")");
            if (most < 58) {
                Check.faultAt("(" + OPERATORS.charAt(i) + " 1".repeat(most + 1) + ")", 2 + 2 * most);
                Check.faultAt("(" + OPERATORS.charAt(i) + " 1".repeat(most) + " ", 2 + 2 * most);
                Check.faultAt("(" + OPERATORS.charAt(i) + " 1".repeat(most) + " )", 2 + 2 * most);
                Check.faultAt("(+ 2 (" + OPERATORS.charAt(i) + " (+ 1)".repeat(most + 1) + "))", 7 + 6 * most);
            }
        }
        Check.faultAt("(+ (n 1) (n 1 2))", 13);
        Check.faultAt("(n (n 1) 2)", 8);
    }

    private static void thirteenthOpen() {
        Check.sentence("Term: the fault", "a ( that would be the 13th open one is wrong");
        Check.faultAt("(+ ".repeat(11) + "(", 34);
        Check.faultAt("(+ ".repeat(12) + "(", 36);
        Check.faultAt("(+ ".repeat(12) + "((((", 36);
        Check.faultAt("(+ (+) " + "(+ ".repeat(11) + "(", 40);
        Check.faultAt("(+ (+) " + "(+ ".repeat(10) + "(", 38);
        Check.faultAt("(".repeat(13), 1);
    }

    private static void asTheirCommentsSay() {
        Check.sentence("Term: a call that throws", "Calls that name exceptions throw them as their comments say");
        String[] texts = {"(+", Check.power(240), "(/ 0)", "(^ 1 65)", "7"};
        String[] answers = {Check.NO_EXPRESSION, Check.TOO_LARGE, Check.BY_ZERO, Check.UNFIT, "0"};
        for (int i = 0; i < texts.length; i++) {
            Check.due("work " + texts[i], Check.work(Check.typed(texts[i])), answers[i]);
            for (int v = -2; v < 10; v++) {
                boolean variable = v >= 0 && v < 8;
                PromotedNumbers x = Check.typed(texts[i]);
                Check.due("against " + v, Check.against(x, v), variable ? "0" : Check.NO_VARIABLE);
                Check.due("fetch " + v, Check.fetch(x, v), variable ? "0" : Check.NO_VARIABLE);
                Check.due("keep " + v + " of " + texts[i], Check.keep(x, v), variable ? answers[i] : Check.NO_VARIABLE);
            }
        }
    }

    private static void firstNamed() {
        Check.sentence("Term: a call that throws", "the one named first when several would do");
        String[] texts = {"", "(+", "(/ 1 0", "(/ 1 0)", "(^ 1 65)", Check.power(240), "7"};
        String[] thrown = {
            Check.NO_EXPRESSION, Check.NO_EXPRESSION, Check.NO_EXPRESSION, Check.BY_ZERO, Check.UNFIT, Check.TOO_LARGE,
            "0",
        };
        for (int i = 0; i < texts.length; i++) {
            PromotedNumbers x = Check.typed(texts[i]);
            Check.due("keep -1 of " + texts[i], Check.keep(x, -1), Check.NO_VARIABLE);
            Check.due("keep 8 of " + texts[i], Check.keep(x, 8), Check.NO_VARIABLE);
            Check.due("work " + texts[i], Check.work(x), thrown[i]);
            Check.due("keep 7 of " + texts[i], Check.keep(x, 7), thrown[i]);
        }
        Check.faultAt(Check.power(240) + "x", 73);
        Check.faultAt("(+ (/ 1 0) (^ 1 65) x)", 20);
    }
}
