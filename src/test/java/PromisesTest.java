import java.math.BigInteger;

/** Promises 1 to 12: a test for each sentence, on both sides of each boundary that it names. */
public final class PromisesTest {
    private static final int[] NO_VARIABLES = {-1, -8, 8, 9, 256, Integer.MIN_VALUE, Integer.MAX_VALUE};

    private PromisesTest() {
    }

    public static void main(String[] args) {
        none();
        calls();
        callsThatNameNoException();
        answersOfTheCallsAlone();
        newText();
        newNumbers();
        typeAnswersTrue();
        typeOrder();
        typeUpToZero();
        typeEightAtMost();
        typeCharacters();
        typeRoom();
        eraseEmpties();
        eraseCounts();
        faultOfTheLatest();
        faultOfAnExpression();
        faultOfNothingRead();
        workSetsTheResult();
        workAnswersTheForm();
        workThrows();
        keepSetsBoth();
        keepEmptiesTheText();
        keepAnswersAndThrowsAsWork();
        keepWithoutVariable();
        form();
        sign();
        digitBelowZero();
        digitsOfTop();
        digitsOfBottom();
        digitBefore();
        digitBehind();
        bitsOfTop();
        bitsOfBottom();
        bitsOutside();
        against();
        againstWithoutVariable();
        fetchSetsTheResult();
        fetchAnswersTheForm();
        fetchWithoutVariable();
        Check.end();
    }

    private static PromotedNumbers worked(String text, String... kept) {
        PromotedNumbers x = Check.typed(text, kept);
        Check.due("work " + text + " works", Check.work(x).length(), 1);
        return x;
    }

    private static void none() {
        Check.sentence("The public face", "NONE = -1");
        Check.due("NONE", PromotedNumbers.NONE, -1);
        Check.due("a new object's fault", new PromotedNumbers().fault(), -1);
    }

    /** What later calls answer is free, so there is no other side. */
    private static void calls() {
        Check.sentence("What it is", "An object is used for at most 512 calls");
        PromotedNumbers x = new PromotedNumbers();
        for (int call = 1; call < 509; call += 4) {
            x.type(Check.row("(+ 1 a)"));
            Check.due("call " + (call + 1), Check.keep(x, 0), "0");
            x.type('x');
            x.erase();
        }
        Check.due("call 509", Check.fetch(x, 0), "0");
        Check.due("calls 510 to 512", "" + x.digit(0) + x.digit(1) + x.digit(2), "127");
        x = Check.typed("(+" + " a".repeat(58) + ")");
        int typed = 15;
        for (int call = typed + 1; call <= 512; call++) {
            Check.due("call " + call, Check.work(x), "0");
        }
    }

    private static void callsThatNameNoException() {
        Check.sentence("The public face", "type, erase, fault, form, sign, digit and bits name no exception");
        int[] edges = {Integer.MIN_VALUE, -(1 << 27), -240, -1, 0, 1, 7, 8, 147, 148, 1 << 27, Integer.MAX_VALUE};
        String[] texts = {"", "0", "(/ -1 " + Check.HIGHEST + ")", "-" + Check.HIGHEST, "(/ 0)", "(^ 1 65)", "(+", "~"};
        for (String text : texts) {
            PromotedNumbers x = Check.typed(text);
            Check.work(x);
            String thrown = "nothing";
            try {
                for (int i : edges) {
                    x.type(i);
                    x.type((long) i << 32 | i);
                    x.digit(i);
                    for (int part : edges) {
                        x.bits(part, i);
                    }
                }
                x.type(Long.MIN_VALUE);
                x.type(Long.MAX_VALUE);
                x.fault();
                x.form();
                x.sign();
                x.erase();
            } catch (RuntimeException e) {
                thrown = e.toString();
            }
            Check.due("what they throw behind " + text, thrown, "nothing");
        }
    }

    /** Objects that are used in turn share nothing, and the same calls get the same answers. */
    private static void answersOfTheCallsAlone() {
        Check.sentence("The public face", "a call answers by the calls on its own object");
        PromotedNumbers x = new PromotedNumbers();
        PromotedNumbers other = new PromotedNumbers();
        PromotedNumbers twin = new PromotedNumbers();
        for (int i = 1; i <= 12; i++) {
            String text = "(/ (+ a " + i + ") 7)";
            Check.type(x, text);
            Check.type(other, "(- b (^ 2 " + i);
            Check.type(twin, text);
            String kept = Check.keep(x, 0);
            Check.due("other's text is its own", Check.work(other), Check.NO_EXPRESSION);
            Check.due("other's fault is its own", other.fault() > 0 && x.fault() == PromotedNumbers.NONE, true);
            Check.due("twin's answer", Check.keep(twin, 0), kept);
            Check.due("twin's result", Check.written(twin), Check.written(x));
            Check.type(other, "))");
            Check.due("other's keep", Check.keep(other, 1), "0");
            Check.due("other's result", Check.written(other), String.valueOf(2 - (2 << i)));
            Check.due("other's variable a", Check.against(other, 0), "-1");
            Check.due("twin's variable a", Check.against(twin, 0), "0");
        }
    }

    private static void newText() {
        Check.sentence("Promise 1: A new object", "No text");
        PromotedNumbers x = new PromotedNumbers();
        Check.due("work", Check.work(x), Check.NO_EXPRESSION);
        Check.due("fault", x.fault(), 0);
        Check.due("erase", x.erase(), 0);
        x.type('1');
        Check.due("erase behind type", x.erase(), 1);
    }

    private static void newNumbers() {
        Check.sentence("Promise 1: A new object", "the variables and the result are 0");
        PromotedNumbers x = new PromotedNumbers();
        Check.due("form", x.form(), 0);
        Check.due("sign", x.sign(), 0);
        Check.due("written", Check.written(x), "0");
        for (int i = -1; i < 10; i++) {
            Check.due("n's bits " + i, x.bits(0, i), 0);
            Check.due("d's bits " + i, x.bits(1, i), i == 0 ? 1 : 0);
        }
        for (int v = 0; v < 8; v++) {
            Check.due("against " + v, Check.against(x, v), "0");
        }
        Check.works("(+ a b c d e f g h)", "0");
        for (int v = 0; v < 8; v++) {
            x = worked("5");
            Check.due("5 against " + v, Check.against(x, v), "1");
            Check.due("fetch " + v, Check.fetch(x, v), "0");
            Check.due("its content", Check.written(x), "0");
        }
        // One object's numbers are not another's.
        Check.setVariable(new PromotedNumbers(), 0, "7");
        Check.works("a", "0");
    }

    private static void typeAnswersTrue() {
        Check.sentence("Promise 2: type", "Answers true");
        PromotedNumbers x = new PromotedNumbers();
        for (int c = 32; c <= 126; c++) {
            Check.due("type " + c, x.type(c), true);
            Check.due("puts it", x.erase(), 1);
        }
        Check.due("nothing", x.type(0), true);
        for (int i = 0; i < 15; i++) {
            Check.due("what will be no expression", x.type(Check.row(") ~x(( 1")), true);
        }
        Check.due("puts all", x.erase(), 120);
    }

    private static void typeOrder() {
        Check.sentence("Promise 2: type",
                "Puts characters behind the text: the lowest 8 bits of row, the next 8, and so on");
        PromotedNumbers x = new PromotedNumbers();
        Check.due("type", x.type('1' + ('2' << 8) + ('3' << 16)), true);
        Check.due("work", Check.work(x), "0");
        Check.due("order", Check.written(x), "123");
        Check.due("type", x.type('4' + ('5' << 8)), true);
        Check.due("work", Check.work(x), "0");
        Check.due("behind it", Check.written(x), "12345");
        x.type(Check.row("6"));
        x.type(Check.row("7890"));
        x.type(Check.row("12345678"));
        Check.due("work", Check.work(x), "0");
        Check.due("row behind row", Check.written(x), "123456789012345678");
    }

    private static void typeUpToZero() {
        Check.sentence("Promise 2: type", "up to the first that are 0");
        PromotedNumbers x = new PromotedNumbers();
        Check.due("a row of 0", x.type(0), true);
        Check.due("puts nothing", x.erase(), 0);
        for (int count = 0; count <= 8; count++) {
            String row = "12345678".substring(0, count);
            Check.due("type " + row, x.type(Check.row(row)), true);
            Check.due("puts " + row, x.erase(), count);
        }
        for (int count = 0; count < 7; count++) {
            // What stands behind the 0 is neither taken nor looked at.
            for (int behind : new int[] {'9', 31, 127, 128, 255}) {
                long row = Check.row("12345678".substring(0, count)) | (long) behind << (8 * count + 8);
                Check.due("type " + count + " and " + behind, x.type(row), true);
                Check.due("puts just those before the 0", x.erase(), count);
            }
        }
        x.type(Check.row("12\u00003\u00ff\u001f"));
        x.type(Check.row("4"));
        Check.work(x);
        Check.due("the next row comes behind them", Check.written(x), "124");
    }

    private static void typeEightAtMost() {
        Check.sentence("Promise 2: type", "eight at most");
        PromotedNumbers x = new PromotedNumbers();
        Check.due("seven", x.type(Check.row("1234567")), true);
        Check.due("puts seven", x.erase(), 7);
        Check.due("eight", x.type(Check.row("12345678")), true);
        Check.due("work", Check.work(x), "0");
        Check.due("puts these eight", Check.written(x), "12345678");
        Check.due("and no more", x.erase(), 8);
        Check.due("eight of the highest", x.type(Check.row("~~~~~~~~")), true);
        Check.due("puts eight", x.erase(), 8);
    }

    private static void typeCharacters() {
        Check.sentence("Promise 2: type", "false, changing nothing, when one is not 32 .. 126");
        PromotedNumbers x = new PromotedNumbers();
        for (int place = 0; place < 8; place++) {
            for (int c = 1; c < 256; c++) {
                boolean taken = c >= 32 && c <= 126;
                long others = Check.row("00000000") & ~(255L << (8 * place));
                Check.due(c + " at " + place + " of eight", x.type(others | (long) c << (8 * place)), taken);
                Check.due("puts eight or nothing", x.erase(), taken ? 8 : 0);
                Check.due(c + " at the end", x.type(Check.row("0".repeat(place)) | (long) c << (8 * place)), taken);
                Check.due("puts all or nothing", x.erase(), taken ? place + 1 : 0);
                // The object is to stay below its 512 calls.
                x = c % 100 == 0 ? new PromotedNumbers() : x;
            }
            x = new PromotedNumbers();
        }
        Check.due("all bits", x.type(-1), false);
        Check.due("the sign's bit alone", x.type(Long.MIN_VALUE), true);
        Check.due("stands behind a 0", x.erase(), 0);
    }

    private static void typeRoom() {
        Check.sentence("Promise 2: type", "or there would be more than 120");
        for (int length = 110; length <= 120; length++) {
            for (int more = 0; more <= 8; more++) {
                PromotedNumbers x = Check.typed("0".repeat(length));
                boolean fits = length + more <= 120;
                String row = "12345678".substring(0, more);
                Check.due("type " + more + " behind " + length, x.type(Check.row(row)), fits);
                Check.due("work", Check.work(x), "0");
                Check.due("all or nothing", Check.written(x), fits && more > 0 ? row : "0");
                Check.due("erase", x.erase(), fits ? length + more : length);
            }
        }
        PromotedNumbers full = Check.typed("0".repeat(120));
        Check.due("what begins with 0 fits", full.type(Check.row("\u00001")), true);
        Check.due("one does not", full.type('1'), false);
        Check.due("a bad one does not", full.type(31), false);
        full.erase();
        Check.due("behind erase there is room", full.type('1'), true);
    }

    private static void eraseEmpties() {
        Check.sentence("Promise 3: erase", "The text has no characters then");
        PromotedNumbers x = Check.typed("(+ 1 2)");
        x.erase();
        Check.due("erase again", x.erase(), 0);
        Check.due("work", Check.work(x), Check.NO_EXPRESSION);
        Check.due("fault", x.fault(), 0);
        Check.type(x, "5");
        Check.due("a new text", Check.work(x), "0");
        Check.due("is alone", Check.written(x), "5");
        x.erase();
        Check.type(x, "(+ 1");
        Check.due("work", Check.work(x), Check.NO_EXPRESSION);
        Check.due("nothing of an old text comes back", x.fault(), 4);
        x.erase();
        Check.due("the result stays", x.bits(0, 0), 5);
        Check.due("written, too", Check.written(x), "5");
    }

    private static void eraseCounts() {
        Check.sentence("Promise 3: erase", "Answers how many it had");
        for (int length = 0; length <= 120; length++) {
            PromotedNumbers x = Check.typed("~".repeat(length));
            Check.due("erase", x.erase(), length);
            Check.due("erase again", x.erase(), 0);
        }
        PromotedNumbers x = Check.typed("(+ 1 2)");
        Check.work(x);
        Check.due("work leaves them", x.erase(), 7);
    }

    private static void faultOfTheLatest() {
        Check.sentence("Promise 4: fault", "The text's fault, found by the latest work() or keep() that read it");
        PromotedNumbers x = Check.typed("(+ 1");
        Check.work(x);
        Check.due("found by work", x.fault(), 4);
        Check.type(x, " x)");
        Check.due("type finds none", x.fault(), 4);
        Check.keep(x, 0);
        Check.due("found by keep", x.fault(), 5);
        x.erase();
        Check.due("erase finds none", x.fault(), 5);
        Check.work(x);
        Check.due("found by work", x.fault(), 0);
        Check.type(x, "12+");
        for (int v : NO_VARIABLES) {
            Check.keep(x, v);
            Check.due("keep " + v + " does not read the text", x.fault(), 0);
        }
        Check.fetch(x, 0);
        Check.fetch(x, 8);
        Check.against(x, 0);
        Check.against(x, 8);
        Check.due("fetch and against don't read it", x.fault(), 0);
        Check.keep(x, 7);
        Check.due("found by keep", x.fault(), 2);
    }

    private static void faultOfAnExpression() {
        Check.sentence("Promise 4: fault", "NONE when it was an expression");
        String[] expressions = {"7", "h", "(+)", "(/ 1 0)", "(^ 1 65)", Check.power(240), "(? 1 2 (/ 1 0))"};
        for (String text : expressions) {
            PromotedNumbers x = Check.typed("(+");
            Check.work(x);
            Check.due("a fault", x.fault(), 2);
            x.erase();
            Check.type(x, text);
            Check.due("the fault of what was read", x.fault(), 2);
            Check.work(x);
            Check.due("work " + text, x.fault(), PromotedNumbers.NONE);
            x.erase();
            Check.work(x);
            Check.due("a fault again", x.fault(), 0);
            Check.type(x, text);
            Check.keep(x, 0);
            Check.due("keep " + text, x.fault(), PromotedNumbers.NONE);
        }
    }

    private static void faultOfNothingRead() {
        Check.sentence("Promise 4: fault", "or none was read yet");
        PromotedNumbers x = new PromotedNumbers();
        Check.due("new", x.fault(), PromotedNumbers.NONE);
        Check.type(x, "(x");
        Check.due("typed", x.fault(), PromotedNumbers.NONE);
        Check.keep(x, 8);
        Check.keep(x, -1);
        Check.due("keep without a variable", x.fault(), PromotedNumbers.NONE);
        Check.work(x);
        Check.due("read", x.fault(), 1);
    }

    private static void workSetsTheResult() {
        Check.sentence("Promise 5: work", "Works the text out; the result becomes its value");
        PromotedNumbers x = Check.typed("(/ -22 7)");
        Check.due("before", Check.written(x), "0");
        Check.work(x);
        Check.due("written", Check.written(x), "-22/7");
        Check.due("sign", x.sign(), -1);
        Check.due("n's bits", x.bits(0, 0), 22);
        Check.due("d's bits", x.bits(1, 0), 7);
        Check.work(x);
        Check.due("again", Check.written(x), "-22/7");
        x.erase();
        Check.type(x, "(+ 40 2)");
        Check.work(x);
        Check.due("the next", Check.written(x), "42");
        Check.due("its d", x.bits(1, 0), 1);
        Check.due("work sets no variable", worked("(+ a b c d e f g h)").sign(), 0);
    }

    private static void workAnswersTheForm() {
        Check.sentence("Promise 5: work", "Answers the form");
        Check.due("0", Check.work(Check.typed("0")), "0");
        Check.due("small", Check.work(Check.typed("-4611686018427387903")), "0");
        Check.due("large", Check.work(Check.typed("-4611686018427387904")), "1");
        Check.due("broken", Check.work(Check.typed("(/ 4611686018427387904 3)")), "2");
        Check.due("whole again", Check.work(Check.typed("(/ 9 3)")), "0");
    }

    private static void workThrows() {
        Check.sentence("Promise 5: work", "IllegalArgumentException: the text is no expression");
        Check.due("an expression", Check.work(Check.typed("(+ 1)")), "0");
        Check.due("none", Check.work(Check.typed("(+ 1")), Check.NO_EXPRESSION);
        Check.due("empty", Check.work(new PromotedNumbers()), Check.NO_EXPRESSION);
        Check.sentence("Promise 5: work", "UnsupportedOperationException: it fails with 1");
        Check.due("does not fail", Check.work(Check.typed(Check.HIGHEST)), "1");
        Check.due("fails", Check.work(Check.typed(Check.power(240))), Check.TOO_LARGE);
        Check.sentence("Promise 5: work", "ArithmeticException: with 2");
        Check.due("does not fail", Check.work(Check.typed("(/ 0 1)")), "0");
        Check.due("fails", Check.work(Check.typed("(/ 1 0)")), Check.BY_ZERO);
        Check.sentence("Promise 5: work", "IllegalStateException: with 3");
        Check.due("does not fail", Check.work(Check.typed("(^ 1 64)")), "0");
        Check.due("fails", Check.work(Check.typed("(^ 1 65)")), Check.UNFIT);
    }

    private static void keepSetsBoth() {
        Check.sentence("Promise 6: keep", "As work(); and variable v gets the value, too");
        for (int v = 0; v < 8; v++) {
            PromotedNumbers x = Check.typed("(/ -22 7)");
            Check.due("keep " + v, Check.keep(x, v), "2");
            Check.due("the result", Check.written(x), "-22/7");
            for (int other = 0; other < 8; other++) {
                Check.due("against " + other, Check.against(x, other), other == v ? "0" : "-1");
            }
            Check.type(x, "9");
            Check.work(x);
            Check.fetch(x, v);
            Check.due("the variable", Check.written(x), "-22/7");
        }
        PromotedNumbers x = Check.typed("(+ a a)", "(/ 3 4)");
        Check.due("keep of itself", Check.keep(x, 0), "2");
        Check.due("is worked out with the old content", Check.written(x), "3/2");
        Check.due("the variable has the new one", Check.against(x, 0), "0");
    }

    private static void keepEmptiesTheText() {
        Check.sentence("Promise 6: keep", "and the text has no characters then");
        for (String text : new String[] {"7", "(+ 1 2)", "0".repeat(120)}) {
            PromotedNumbers x = Check.typed(text);
            Check.keep(x, 3);
            Check.due("erase", x.erase(), 0);
            Check.due("work", Check.work(x), Check.NO_EXPRESSION);
            Check.due("fault", x.fault(), 0);
        }
        PromotedNumbers x = Check.typed("(+ 1");
        Check.keep(x, 3);
        Check.due("a keep that throws leaves it", x.erase(), 4);
    }

    private static void keepAnswersAndThrowsAsWork() {
        Check.sentence("Promise 6: keep", "As work()");
        String[] texts = {
            "", "(+", "4611686018427387903", "4611686018427387904", "(/ 1 2)", "(/ 2 2)", "(/ 1 0)", "(/ 0 1)",
            "(^ 1 64)", "(^ 1 65)", Check.HIGHEST, Check.power(240),
        };
        String[] due = {
            Check.NO_EXPRESSION, Check.NO_EXPRESSION, "0", "1", "2", "0", Check.BY_ZERO, "0", "0", Check.UNFIT, "1",
            Check.TOO_LARGE,
        };
        for (int i = 0; i < texts.length; i++) {
            for (int v = 0; v < 8; v++) {
                Check.due("keep " + v + " of " + texts[i], Check.keep(Check.typed(texts[i]), v), due[i]);
            }
        }
    }

    private static void keepWithoutVariable() {
        Check.sentence("Promise 6: keep", "IndexOutOfBoundsException: there is no such variable");
        for (int v : NO_VARIABLES) {
            Check.due("keep " + v, Check.keep(Check.typed("7"), v), Check.NO_VARIABLE);
        }
        Check.due("keep 0", Check.keep(Check.typed("7"), 0), "0");
        Check.due("keep 7", Check.keep(Check.typed("7"), 7), "0");
    }

    private static void form() {
        Check.sentence("Promise 7: form", "The form of the result");
        Check.due("new", new PromotedNumbers().form(), 0);
        Check.due("small", worked("-4611686018427387903").form(), 0);
        Check.due("large", worked("-4611686018427387904").form(), 1);
        Check.due("highest", worked(Check.HIGHEST).form(), 1);
        Check.due("broken", worked("(/ 1 2)").form(), 2);
        Check.due("no longer broken", worked("(* 2 (/ 1 2))").form(), 0);
        PromotedNumbers x = Check.typed("(/ a 2)", "(^ 2 62)");
        Check.due("kept", x.form(), 1);
        Check.work(x);
        Check.due("worked out", x.form(), 0);
        Check.fetch(x, 0);
        Check.due("fetched", x.form(), 1);
    }

    private static void sign() {
        Check.sentence("Promise 8: sign", "Below 0, 0 or above: the sign of the result, as -1, 0 or 1");
        String[] texts = {
            "-1", "(/ -1 3)", "-3", "(- (^ 2 64))", "-" + Check.HIGHEST, "(/ -1 " + Check.HIGHEST + ")", "0", "-0",
            "(- 1 1)", "(* -1 0)", "(/ 0 -3)", "1", "(/ 1 3)", "3", "(^ 2 62)", Check.HIGHEST,
            "(/ 1 " + Check.HIGHEST + ")",
        };
        int[] signs = {-1, -1, -1, -1, -1, -1, 0, 0, 0, 0, 0, 1, 1, 1, 1, 1, 1};
        for (int i = 0; i < texts.length; i++) {
            Check.due("sign of " + texts[i], worked(texts[i]).sign(), signs[i]);
        }
    }

    private static void digitBelowZero() {
        Check.sentence("Promise 9: digit", "- if it is below 0");
        Check.due("-7", worked("-7").digit(0), '-');
        Check.due("-7", worked("-7").digit(1), '7');
        Check.due("7", worked("7").digit(0), '7');
        Check.due("0", worked("-0").digit(0), '0');
        Check.due("-1/2", Check.written(worked("(/ 1 -2)")), "-1/2");
        Check.due("1/2", Check.written(worked("(/ -1 -2)")), "1/2");
    }

    private static void digitsOfTop() {
        Check.sentence("Promise 9: digit", "the digits of n (0 alone for 0, otherwise without a 0 in front)");
        Check.due("0", Check.written(worked("000")), "0");
        Check.due("0 of a difference", Check.written(worked("(- 12 12)")), "0");
        Check.due("1", Check.written(worked("0001")), "1");
        Check.due("zeros within", Check.written(worked("-0001002003000")), "-1002003000");
        for (int zeros = 0; zeros < 73; zeros++) {
            String power = "1" + "0".repeat(zeros);
            Check.due(power, Check.written(worked(power)), power);
            String below = zeros == 0 ? "0" : "9".repeat(zeros);
            Check.due(below, Check.written(worked(below)), below);
        }
        Check.due("highest", Check.written(worked(Check.HIGHEST)), Check.HIGHEST);
        Check.due("lowest", Check.written(worked("-" + Check.HIGHEST)), "-" + Check.HIGHEST);
    }

    private static void digitsOfBottom() {
        Check.sentence("Promise 9: digit", "and, if it is broken, / and those of d");
        Check.due("whole", Check.written(worked("(/ 12 4)")), "3");
        Check.due("broken", Check.written(worked("(/ 1002 70)")), "501/35");
        Check.due("zeros in d", Check.written(worked("(/ 1 1000000000)")), "1/1000000000");
        Check.due("zeros in n", Check.written(worked("(/ 1000000000 3)")), "1000000000/3");
        Check.due("longest", Check.written(worked("(/ (- 1 a) a)", Check.HIGHEST)),
                "-" + Check.power(240, -2) + "/" + Check.HIGHEST);
    }

    private static void digitBehind() {
        Check.sentence("Promise 9: digit", "0 behind it");
        String[] texts = {"0", "7", "-7", "(/ -1002 70)", Check.HIGHEST};
        String[] written = {"0", "7", "-7", "-501/35", Check.HIGHEST};
        for (int i = 0; i < texts.length; i++) {
            PromotedNumbers x = worked(texts[i]);
            int length = written[i].length();
            Check.due("the last of " + written[i], x.digit(length - 1), written[i].charAt(length - 1));
            for (int behind : new int[] {length, length + 1, 148, 149, 200, 1 << 30, Integer.MAX_VALUE}) {
                Check.due("digit " + behind + " of " + written[i], x.digit(behind), (char) 0);
            }
        }
        PromotedNumbers x = worked("(/ (- 1 a) a)", Check.HIGHEST);
        Check.due("the longest one's last", x.digit(147), '5');
        Check.due("behind it", x.digit(148), (char) 0);
        x.erase();
        x.type('9');
        Check.work(x);
        Check.due("nothing stays of a longer one", x.digit(1), (char) 0);
    }

    /** The document tells no character for these places, and there is none. */
    private static void digitBefore() {
        Check.sentence("Promise 9: digit", "Character i of the result written out");
        PromotedNumbers x = worked("(/ (- 1 a) a)", Check.HIGHEST);
        noneBefore(x);
        Check.due("the longest one's first", x.digit(0), '-');
        x.erase();
        x.type('9');
        Check.work(x);
        noneBefore(x);
        Check.due("the first of 9", x.digit(0), '9');
        x = new PromotedNumbers();
        noneBefore(x);
        Check.due("the first of 0", x.digit(0), '0');
    }

    private static void noneBefore(PromotedNumbers x) {
        for (int i : new int[] {-1, -2, -148, -149, Integer.MIN_VALUE}) {
            Check.due("digit " + i, x.digit(i), (char) 0);
        }
    }

    private static void bitsOfTop() {
        Check.sentence("Promise 10: bits",
                "Bits 32 * i .. 32 * i + 31 of the amount of the result's n (part 0) .. as an int");
        for (int bit = 0; bit < 240; bit++) {
            for (String minus : new String[] {"", "-"}) {
                PromotedNumbers x = worked(minus + Check.power(bit));
                for (int i = 0; i < 9; i++) {
                    Check.due("bits " + i + " of 2^" + bit, x.bits(0, i), i == bit / 32 ? 1 << (bit % 32) : 0);
                }
            }
        }
        PromotedNumbers x = worked("-" + Check.HIGHEST);
        for (int i = 0; i < 9; i++) {
            Check.due("bits " + i + " of the highest", x.bits(0, i), i < 7 ? -1 : i == 7 ? 0xffff : 0);
        }
        x = worked("(/ -6 4)");
        Check.due("bits of -3/2", x.bits(0, 0), 3);
        Check.due("bits of 0", worked("0").bits(0, 0), 0);
    }

    private static void bitsOfBottom() {
        Check.sentence("Promise 10: bits", "or of its d (any other part)");
        BigInteger n = new BigInteger("8123456789abcdef0fedcba98765432189abcdef01234567fedcba98765", 16);
        BigInteger d = BigInteger.ONE.shiftLeft(239).add(BigInteger.ONE);
        BigInteger common = n.gcd(d);
        PromotedNumbers x = worked("(- (/ a b))", n.toString(), d.toString());
        for (int i = 0; i < 9; i++) {
            Check.due("part 0, " + i, x.bits(0, i), n.divide(common).shiftRight(32 * i).intValue());
            for (int part : new int[] {1, 2, -1, 256, Integer.MIN_VALUE, Integer.MAX_VALUE}) {
                Check.due("part " + part + ", " + i, x.bits(part, i), d.divide(common).shiftRight(32 * i).intValue());
            }
        }
        x = worked("(/ " + Check.HIGHEST + ")");
        Check.due("the highest d's", x.bits(1, 7), 0xffff);
        Check.due("n's, 1 being n", x.bits(0, 0), 1);
        Check.due("a whole one's d", worked("-7").bits(1, 0), 1);
        Check.due("a whole one's d, higher", worked("-7").bits(1, 1), 0);
        Check.due("0's d", worked("0").bits(5, 0), 1);
    }

    private static void bitsOutside() {
        Check.sentence("Promise 10: bits", "0 when i is below 0");
        PromotedNumbers x = worked("(/ a (- a 1))", Check.HIGHEST);
        Check.due("n's bits 0", x.bits(0, 0), -1);
        Check.due("d's bits 0", x.bits(1, 0), -2);
        int[] outside = {
            -1, -2, -7, -8, Integer.MIN_VALUE, Integer.MIN_VALUE + 1, -(1 << 27), -(1 << 27) + 1,
            // There are no bits from 240 on; 32 * i may wrap around there.
            8, 9, 1 << 26, 1 << 27, (1 << 27) + 1, 1 << 28, 1 << 30, (1 << 30) + 7, Integer.MAX_VALUE,
        };
        for (int i : outside) {
            for (int part = -1; part <= 2; part++) {
                Check.due("bits " + part + ", " + i, x.bits(part, i), 0);
            }
        }
    }

    private static void against() {
        Check.sentence("Promise 11: against",
                "whether the result is less than variable v, the same, or more, as -1, 0 or 1");
        String[] rising = {"(- (^ 2 64))", "-3", "(/ -5 2)", "(/ -1 3)", "0", "(/ 1 3)", "(/ 1 2)", "(^ 3 64)"};
        PromotedNumbers x = Check.typed("", rising);
        for (int i = 0; i < 8; i++) {
            Check.fetch(x, i);
            for (int v = 0; v < 8; v++) {
                String due = String.valueOf(Integer.compare(i, v));
                Check.due(rising[i] + " against " + rising[v], Check.against(x, v), due);
            }
        }
        // Neighbours that only products of more than 240 bits tell apart.
        x = Check.typed("", Check.HIGHEST, "(- a 1)", "(/ b a)", "(/ (- b 1) b)", "(/ a b)", "(- c)", "(- d)");
        againstIs(x, 2, 3, 1);
        againstIs(x, 3, 2, -1);
        againstIs(x, 5, 6, -1);
        againstIs(x, 6, 5, 1);
        againstIs(x, 2, 4, -1);
        againstIs(x, 2, 2, 0);
        againstIs(x, 5, 5, 0);
        againstIs(x, 2, 5, 1);
        againstIs(x, 0, 1, 1);
        againstIs(x, 1, 0, -1);
        againstIs(x, 0, 0, 0);
        againstIs(x, 7, 5, 1);
        againstIs(x, 7, 2, -1);
    }

    private static void againstIs(PromotedNumbers x, int result, int v, int due) {
        Check.fetch(x, result);
        Check.due(result + " against " + v, Check.against(x, v), String.valueOf(due));
    }

    private static void againstWithoutVariable() {
        Check.sentence("Promise 11: against", "IndexOutOfBoundsException: there is no such variable");
        PromotedNumbers x = new PromotedNumbers();
        for (int v : NO_VARIABLES) {
            Check.due("against " + v, Check.against(x, v), Check.NO_VARIABLE);
        }
        Check.due("against 0", Check.against(x, 0), "0");
        Check.due("against 7", Check.against(x, 7), "0");
    }

    private static void fetchSetsTheResult() {
        Check.sentence("Promise 12: fetch", "The result becomes the content of variable v");
        String[] contents = {"-7/2", "4611686018427387904", "0", "12", "1/3", "-1", "-12157665459056928801", "5"};
        PromotedNumbers x =
                Check.typed("", "(/ -7 2)", "(^ 2 62)", "0", "12", "(/ 3)", "-1", "(- (^ 3 40))", "(+ 2 3)");
        for (int v = 7; v >= 0; v--) {
            Check.due("fetch " + v, Check.fetch(x, v), Check.formOf(contents[v]));
            Check.due("written", Check.written(x), contents[v]);
            Check.due("against", Check.against(x, v), "0");
        }
        Check.due("sign", x.sign(), -1);
        Check.due("n's bits", x.bits(0, 0), 7);
        Check.due("d's bits", x.bits(1, 0), 2);
        x.type('1');
        Check.work(x);
        Check.due("a variable is no view of the result", Check.against(x, 0), "1");
        Check.keep(x, 0);
        Check.fetch(x, 0);
        Check.due("the latest content", Check.written(x), "1");
    }

    private static void fetchAnswersTheForm() {
        Check.sentence("Promise 12: fetch", "Answers its form");
        PromotedNumbers x =
                Check.typed("", "4611686018427387903", "4611686018427387904", "(/ 1 2)", "(/ 2 2)", Check.HIGHEST);
        String[] forms = {"0", "1", "2", "0", "1", "0", "0", "0"};
        for (int v = 0; v < 8; v++) {
            Check.due("fetch " + v, Check.fetch(x, v), forms[v]);
        }
    }

    private static void fetchWithoutVariable() {
        Check.sentence("Promise 12: fetch", "IndexOutOfBoundsException: there is no such variable");
        PromotedNumbers x = new PromotedNumbers();
        for (int v : NO_VARIABLES) {
            Check.due("fetch " + v, Check.fetch(x, v), Check.NO_VARIABLE);
        }
        Check.due("fetch 0", Check.fetch(x, 0), "0");
        Check.due("fetch 7", Check.fetch(x, 7), "0");
    }
}
