/**
 * Calls beside a twin: an object made just alike, on which the call was not made. A call that refuses
 * changes nothing but what the document names, and one that does not changes only what it says.
 */
public final class RefusalsTest {
    private static final String[] KEPT = {
        "(/ -7 2)", "0", "(^ 2 62)", "12", "(- (^ 3 40))", "(/ 3)", "-1", "(/ (^ 2 64) 5)",
    };
    private static final int FAULT_BEFORE = 4;
    private static final int[] NO_VARIABLES = {-1, 8, 9, Integer.MIN_VALUE, Integer.MAX_VALUE};

    /** Texts, what makes an expression of each that can still become one, and what work() does with the text. */
    private static final String[][] TEXTS = {
        {"", "5", Check.NO_EXPRESSION, "0"},
        {"(- 70 8", " 3)", Check.NO_EXPRESSION, "7"},
        {"-", "41", Check.NO_EXPRESSION, "1"},
        {"(+ 1 x", "", Check.NO_EXPRESSION, "5"},
        {"(/ 1 0", " 2)", Check.NO_EXPRESSION, "6"},
        {"(+" + " 1".repeat(59), "", Check.NO_EXPRESSION, "120"},
        {"(* 16 (^ 16 59))", "", Check.TOO_LARGE, "-1"},
        {"9".repeat(120), "", Check.TOO_LARGE, "-1"},
        {"(/ 34 b)", "", Check.BY_ZERO, "-1"},
        {"(q d 0)", "", Check.BY_ZERO, "-1"},
        {"(q a 1)", "", Check.UNFIT, "-1"},
        {"(^ d 65)", "", Check.UNFIT, "-1"},
    };

    private RefusalsTest() {
    }

    public static void main(String[] args) {
        typeOfBadCharacters();
        typeOfTooMany();
        workThatThrows();
        keepThatThrows();
        keepWithoutVariable();
        againstWithoutVariable();
        fetchWithoutVariable();
        refusedAgainAndAgain();
        callsThatOnlyTell();
        typeChangesTheText();
        eraseChangesTheText();
        workChangesTheResult();
        keepChangesOneVariable();
        fetchChangesTheResult();
        Check.end();
    }

    /** All that calls can tell of an object. */
    private record Portrait(int fault, String result, String text, String variables) {
    }

    private static PromotedNumbers ready(String text) {
        PromotedNumbers x = Check.typed("(/ 22 -7)", KEPT);
        Check.due("work", Check.work(x), "2");
        x.erase();
        Check.type(x, "(+ 1");
        Check.due("work", Check.work(x), Check.NO_EXPRESSION);
        x.erase();
        Check.type(x, text);
        return x;
    }

    /** Uses the object up: what the text holds shows only when it is made an expression and worked out. */
    private static Portrait portrait(PromotedNumbers x, String rest) {
        int fault = x.fault();
        StringBuilder result = new StringBuilder().append(x.form()).append(' ').append(x.sign()).append(' ');
        result.append(Check.written(x));
        for (int i = 0; i < 3; i++) {
            result.append(' ').append(x.bits(0, i)).append(' ').append(x.bits(1, i));
        }
        for (int v = 0; v < 8; v++) {
            result.append(' ').append(Check.against(x, v));
        }
        boolean taken = Check.type(x, rest);
        String worked = Check.work(x);
        String value = worked.length() == 1 ? Check.written(x) : "none";
        String text = taken + " " + worked + " " + value + " " + x.fault() + " " + x.erase();
        StringBuilder variables = new StringBuilder();
        for (int v = 0; v < 8; v++) {
            variables.append(Check.fetch(x, v)).append(' ').append(Check.written(x)).append(' ');
        }
        return new Portrait(fault, result.toString(), text, variables.toString().trim());
    }

    private static void sameAsTwin(String call, PromotedNumbers x, String[] text, int fault) {
        Portrait seen = portrait(x, text[1]);
        Portrait due = portrait(ready(text[0]), text[1]);
        Check.due("fault() behind " + call, seen.fault, fault);
        Check.due("the result behind " + call, seen.result, due.result);
        Check.due("the text behind " + call, seen.text, due.text);
        Check.due("the variables behind " + call, seen.variables, due.variables);
    }

    private static void typeOfBadCharacters() {
        Check.sentence("Promise 2: type", "false, changing nothing, when one is not 32 .. 126");
        for (String[] text : TEXTS) {
            for (int bad : new int[] {1, 31, 127, 128, 255}) {
                for (int place = 0; place < 8; place += 7) {
                    long row = Check.row("1".repeat(place)) | (long) bad << (8 * place);
                    PromotedNumbers x = ready(text[0]);
                    Check.due("type " + row, x.type(row), false);
                    sameAsTwin("type " + row, x, text, FAULT_BEFORE);
                }
            }
        }
    }

    private static void typeOfTooMany() {
        Check.sentence("Promise 2: type", "false, changing nothing, when .. there would be more than 120");
        for (int length = 113; length <= 120; length++) {
            // Below 120, a 7 more makes a number that shows each character before it.
            String[] text = {"0".repeat(length - 6) + "123456", length < 120 ? "7" : ""};
            PromotedNumbers x = ready(text[0]);
            Check.due("eight behind " + length, x.type(Check.row("88888888")), false);
            Check.due("one too many behind " + length, x.type(Check.row("8".repeat(121 - length))), false);
            sameAsTwin("type behind " + length, x, text, FAULT_BEFORE);
        }
    }

    private static void workThatThrows() {
        Check.sentence("Promise 5: work", "a call that throws changes nothing, but for what fault() tells");
        for (String[] text : TEXTS) {
            PromotedNumbers x = ready(text[0]);
            Check.due("work " + text[0], Check.work(x), text[2]);
            sameAsTwin("work " + text[0], x, text, Integer.parseInt(text[3]));
        }
    }

    private static void keepThatThrows() {
        Check.sentence("Promise 6: keep", "a call that throws changes nothing, but for what fault() tells");
        for (String[] text : TEXTS) {
            for (int v = 0; v < 8; v++) {
                PromotedNumbers x = ready(text[0]);
                Check.due("keep " + v + " of " + text[0], Check.keep(x, v), text[2]);
                sameAsTwin("keep " + v + " of " + text[0], x, text, Integer.parseInt(text[3]));
            }
        }
    }

    private static void keepWithoutVariable() {
        Check.sentence("Promise 6: keep", "IndexOutOfBoundsException: there is no such variable .. changes nothing");
        for (int v : NO_VARIABLES) {
            for (String[] text : TEXTS) {
                PromotedNumbers x = ready(text[0]);
                Check.due("keep " + v + " of " + text[0], Check.keep(x, v), Check.NO_VARIABLE);
                sameAsTwin("keep " + v + " of " + text[0], x, text, FAULT_BEFORE);
            }
            String[] expression = {"(+ a 3)", ""};
            PromotedNumbers x = ready(expression[0]);
            Check.due("keep " + v + " of an expression", Check.keep(x, v), Check.NO_VARIABLE);
            sameAsTwin("keep " + v + " of an expression", x, expression, FAULT_BEFORE);
        }
    }

    private static void againstWithoutVariable() {
        Check.sentence("Promise 11: against",
                "IndexOutOfBoundsException: there is no such variable .. changes nothing");
        for (int v : NO_VARIABLES) {
            for (String[] text : TEXTS) {
                PromotedNumbers x = ready(text[0]);
                Check.due("against " + v, Check.against(x, v), Check.NO_VARIABLE);
                sameAsTwin("against " + v, x, text, FAULT_BEFORE);
            }
        }
    }

    private static void fetchWithoutVariable() {
        Check.sentence("Promise 12: fetch", "IndexOutOfBoundsException: there is no such variable .. changes nothing");
        for (int v : NO_VARIABLES) {
            for (String[] text : TEXTS) {
                PromotedNumbers x = ready(text[0]);
                Check.due("fetch " + v, Check.fetch(x, v), Check.NO_VARIABLE);
                sameAsTwin("fetch " + v, x, text, FAULT_BEFORE);
            }
        }
    }

    private static void refusedAgainAndAgain() {
        Check.sentence("Term: a call that throws", "changes nothing, but for what fault() tells");
        for (String[] text : TEXTS) {
            PromotedNumbers x = ready(text[0]);
            for (int i = 0; i < 10; i++) {
                Check.due("work", Check.work(x), text[2]);
                Check.due("keep", Check.keep(x, i % 8), text[2]);
                Check.due("keep without a variable", Check.keep(x, 8), Check.NO_VARIABLE);
                Check.due("type", x.type(Check.row("1\n")), false);
                Check.due("against", Check.against(x, 8), Check.NO_VARIABLE);
                Check.due("fetch", Check.fetch(x, -1), Check.NO_VARIABLE);
            }
            sameAsTwin("refused calls with " + text[0], x, text, Integer.parseInt(text[3]));
        }
    }

    private static void callsThatOnlyTell() {
        Check.sentence("Promises 4 and 7 to 11", "Nothing is promised beyond the answers and state changes described");
        for (String[] text : TEXTS) {
            PromotedNumbers x = ready(text[0]);
            for (int i = -1; i < 10; i++) {
                x.fault();
                x.form();
                x.sign();
                x.digit(i);
                x.bits(i, i);
                Check.against(x, i);
            }
            sameAsTwin("calls that only tell", x, text, FAULT_BEFORE);
        }
    }

    private static void typeChangesTheText() {
        Check.sentence("Promise 2: type", "Puts characters behind the text .. up to the first that are 0");
        PromotedNumbers x = ready("(- 70 8");
        Check.due("type", x.type(Check.row(" 3)")), true);
        sameAsTwin("type", x, new String[] {"(- 70 8 3)", ""}, FAULT_BEFORE);
        x = ready("(- 70 8");
        Check.due("type nothing", x.type(0), true);
        sameAsTwin("type nothing", x, new String[] {"(- 70 8", " 3)"}, FAULT_BEFORE);
    }

    private static void eraseChangesTheText() {
        Check.sentence("Promise 3: erase", "The text has no characters then");
        for (String[] text : TEXTS) {
            PromotedNumbers x = ready(text[0]);
            Check.due("erase", x.erase(), text[0].length());
            sameAsTwin("erase", x, new String[] {"", "5"}, FAULT_BEFORE);
        }
    }

    private static void workChangesTheResult() {
        Check.sentence("Promise 5: work", "Works the text out; the result becomes its value");
        PromotedNumbers x = ready("(+ a 3)");
        Check.due("work", Check.work(x), "2");
        Portrait seen = portrait(x, "");
        Portrait before = portrait(ready("(+ a 3)"), "");
        Check.due("fault", seen.fault, PromotedNumbers.NONE);
        Check.due("the result", seen.result, "2 -1 -1/2 1 2 0 0 0 0 1 -1 -1 -1 1 -1 1 -1");
        Check.due("the text", seen.text, before.text);
        Check.due("the variables", seen.variables, before.variables);
    }

    private static void keepChangesOneVariable() {
        Check.sentence("Promise 6: keep", "variable v gets the value, too, and the text has no characters then");
        String[] before = portrait(ready("5"), "").variables.split(" ");
        for (int v = 0; v < 8; v++) {
            PromotedNumbers x = ready("(+ a 3)");
            Check.due("keep " + v, Check.keep(x, v), "2");
            Portrait seen = portrait(x, "5");
            Check.due("fault behind keep " + v, seen.fault, PromotedNumbers.NONE);
            Check.due("the result behind keep " + v, seen.result.startsWith("2 -1 -1/2 1 2 0 0 0 0 "), true);
            Check.due("the text behind keep " + v, seen.text, "true 0 5 -1 1");
            String[] after = before.clone();
            after[2 * v] = "2";
            after[2 * v + 1] = "-1/2";
            Check.due("the variables behind keep " + v, seen.variables, String.join(" ", after));
        }
    }

    private static void fetchChangesTheResult() {
        Check.sentence("Promise 12: fetch", "The result becomes the content of variable v");
        for (String[] text : TEXTS) {
            PromotedNumbers x = ready(text[0]);
            Check.due("fetch", Check.fetch(x, 5), "2");
            Portrait seen = portrait(x, text[1]);
            Check.due("fault", seen.fault, FAULT_BEFORE);
            Check.due("the result", seen.result, "2 1 1/3 1 3 0 0 0 0 1 1 -1 -1 1 0 1 -1");
            Portrait before = portrait(ready(text[0]), text[1]);
            Check.due("the text", seen.text, before.text);
            Check.due("the variables", seen.variables, before.variables);
        }
    }
}
