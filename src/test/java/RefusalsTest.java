/**
 * Calls on an object of which all is known. A call that refuses leaves all of it but what the document
 * names, and one that does not changes only what it says.
 */
public final class RefusalsTest {
    private static final String[] KEPT = {
        "(/ -7 2)", "0", "(^ 2 62)", "12", "(- (^ 3 40))", "(/ 3)", "-1", "(/ (^ 2 64) 5)",
    };
    private static final String VARIABLES_BEFORE = "2 -7/2 0 0 1 4611686018427387904 0 12"
            + " 1 -12157665459056928801 2 1/3 0 -1 2 18446744073709551616/5";
    /** Form, sign, digits, bits of n and d, and against each variable. */
    private static final String RESULT_BEFORE = "2 -1 -22/7 22 7 0 0 0 0 1 -1 -1 -1 1 -1 -1 -1";
    private static final int FAULT_BEFORE = 4;
    private static final int NONE = PromotedNumbers.NONE;
    private static final int[] NO_VARIABLES = {-1, 8, 9, Integer.MIN_VALUE, Integer.MAX_VALUE};

    /** What work() throws for it and which fault it finds; some become expressions with the rest, of this value. */
    private record Text(String typed, String thrown, int fault, String rest, String value) {
    }

    private static final Text[] REFUSED = {
        new Text("", Check.NO_EXPRESSION, 0, "5", "5"),
        new Text("(- 70 8", Check.NO_EXPRESSION, 7, " 3)", "59"),
        new Text("-", Check.NO_EXPRESSION, 1, "41", "-41"),
        new Text("(+ 1 x 2)", Check.NO_EXPRESSION, 5, "", ""),
        new Text("(/ 1 0", Check.NO_EXPRESSION, 6, "2)", "1/2"),
        new Text("(+" + " 1".repeat(59), Check.NO_EXPRESSION, 120, "", ""),
        new Text("(* 16 (^ 16 59))", Check.TOO_LARGE, NONE, "", ""),
        new Text("9".repeat(120), Check.TOO_LARGE, NONE, "", ""),
        new Text("(/ 34 b)", Check.BY_ZERO, NONE, "", ""),
        new Text("(q d 0)", Check.BY_ZERO, NONE, "", ""),
        new Text("(q a 1)", Check.UNFIT, NONE, "", ""),
        new Text("(^ d 65)", Check.UNFIT, NONE, "", ""),
    };
    private static final Text EXPRESSION = new Text("(+ a 3)", "", NONE, "", "-1/2");

    /** All that calls can tell of an object. */
    private record Portrait(int fault, String result, String text, String variables) {
    }

    private RefusalsTest() {
    }

    public static void main(String[] args) {
        noCall();
        typeOfBadCharacters();
        typeOfTooMany();
        workThatThrows();
        keepThatThrows();
        keepWithoutVariable();
        againstWithoutVariable();
        fetchWithoutVariable();
        refusedAgainAndAgain();
        roomBehindRefusals();
        callsThatOnlyTell();
        typeChangesTheText();
        eraseChangesTheText();
        workChangesTheResult();
        keepChangesOneVariable();
        fetchChangesTheResult();
        Check.end();
    }

    private static PromotedNumbers ready(String text) {
        PromotedNumbers x = Check.typed("(/ 22 -7)", KEPT);
        Check.due("work", Check.work(x), "2");
        x.erase();
        Check.type(x, "(+ 1");
        Check.due("work", Check.work(x), Check.NO_EXPRESSION);
        x.erase();
        Check.due("type " + text, Check.type(x, text), true);
        return x;
    }

    /** Uses the object up: what the text holds shows only when it is made an expression and worked out. */
    private static Portrait portrait(PromotedNumbers x, String rest) {
        int fault = x.fault();
        StringBuilder result = new StringBuilder().append(x.form()).append(' ').append(x.sign()).append(' ');
        result.append(Check.written(x));
        for (int i = 0; i < 3; i++) {
            result.append(' ').append(x.bits(0, i)).append(' ').append(x.bits(1, i));
        }
        for (int v = 0; v < 8; v++) {
            result.append(' ').append(Check.against(x, v));
        }
        boolean taken = Check.type(x, rest);
        String worked = Check.work(x);
        String value = worked.length() == 1 ? Check.written(x) : "none";
        String text = taken + " " + worked + " " + value + " " + x.fault() + " " + x.erase();
        StringBuilder variables = new StringBuilder();
        for (int v = 0; v < 8; v++) {
            variables.append(Check.fetch(x, v)).append(' ').append(Check.written(x)).append(' ');
        }
        return new Portrait(fault, result.toString(), text, variables.toString().trim());
    }

    private static String textDue(Text text) {
        int length = text.typed.length() + text.rest.length();
        if (text.value.isEmpty()) {
            return "true " + text.thrown + " none " + text.fault + " " + length;
        }
        return "true " + Check.formOf(text.value) + " " + text.value + " " + NONE + " " + length;
    }

    private static void unchanged(String call, PromotedNumbers x, Text text, int fault) {
        Portrait seen = portrait(x, text.rest);
        Check.due("fault() behind " + call, seen.fault, fault);
        Check.due("the result behind " + call, seen.result, RESULT_BEFORE);
        Check.due("the text behind " + call, seen.text, textDue(text));
        Check.due("the variables behind " + call, seen.variables, VARIABLES_BEFORE);
    }

    /** Holds for the object before any of the calls below is made. */
    private static void noCall() {
        Check.sentence("Promises 2 to 6", "type, erase, work and keep change what they name, and nothing else");
        for (Text text : REFUSED) {
            unchanged("no call", ready(text.typed), text, FAULT_BEFORE);
        }
        unchanged("no call", ready(EXPRESSION.typed), EXPRESSION, FAULT_BEFORE);
    }

    private static void typeOfBadCharacters() {
        Check.sentence("Promise 2: type", "false, changing nothing, when one is not 32 .. 126");
        for (Text text : REFUSED) {
            for (int bad : new int[] {1, 31, 127, 128, 255}) {
                for (int place = 0; place < 8; place += 7) {
                    long row = Check.row("1".repeat(place)) | (long) bad << (8 * place);
                    PromotedNumbers x = ready(text.typed);
                    Check.due("type " + row, x.type(row), false);
                    unchanged("type " + row, x, text, FAULT_BEFORE);
                }
            }
        }
    }

    private static void typeOfTooMany() {
        Check.sentence("Promise 2: type", "false, changing nothing, when .. there would be more than 120");
        for (int length = 113; length <= 120; length++) {
            String rest = length < 120 ? "7" : "";
            Text text = new Text("0".repeat(length - 6) + "123456", "", NONE, rest, "123456" + rest);
            PromotedNumbers x = ready(text.typed);
            Check.due("eight behind " + length, x.type(Check.row("88888888")), false);
            Check.due("one too many behind " + length, x.type(Check.row("8".repeat(121 - length))), false);
            unchanged("type behind " + length, x, text, FAULT_BEFORE);
        }
    }

    private static void workThatThrows() {
        Check.sentence("Promise 5: work", "a call that throws changes nothing, but for what fault() tells");
        for (Text text : REFUSED) {
            PromotedNumbers x = ready(text.typed);
            Check.due("work " + text.typed, Check.work(x), text.thrown);
            unchanged("work " + text.typed, x, text, text.fault);
        }
    }

    private static void keepThatThrows() {
        Check.sentence("Promise 6: keep", "a call that throws changes nothing, but for what fault() tells");
        for (Text text : REFUSED) {
            for (int v = 0; v < 8; v++) {
                PromotedNumbers x = ready(text.typed);
                Check.due("keep " + v + " of " + text.typed, Check.keep(x, v), text.thrown);
                unchanged("keep " + v + " of " + text.typed, x, text, text.fault);
            }
        }
    }

    private static void keepWithoutVariable() {
        Check.sentence("Promise 6: keep", "IndexOutOfBoundsException: there is no such variable .. changes nothing");
        for (int v : NO_VARIABLES) {
            for (Text text : REFUSED) {
                PromotedNumbers x = ready(text.typed);
                Check.due("keep " + v + " of " + text.typed, Check.keep(x, v), Check.NO_VARIABLE);
                unchanged("keep " + v + " of " + text.typed, x, text, FAULT_BEFORE);
            }
            PromotedNumbers x = ready(EXPRESSION.typed);
            Check.due("keep " + v + " of an expression", Check.keep(x, v), Check.NO_VARIABLE);
            unchanged("keep " + v + " of an expression", x, EXPRESSION, FAULT_BEFORE);
        }
    }

    private static void againstWithoutVariable() {
        Check.sentence("Promise 11: against",
                "IndexOutOfBoundsException: there is no such variable .. changes nothing");
        for (int v : NO_VARIABLES) {
            for (Text text : REFUSED) {
                PromotedNumbers x = ready(text.typed);
                Check.due("against " + v, Check.against(x, v), Check.NO_VARIABLE);
                unchanged("against " + v, x, text, FAULT_BEFORE);
            }
        }
    }

    private static void fetchWithoutVariable() {
        Check.sentence("Promise 12: fetch", "IndexOutOfBoundsException: there is no such variable .. changes nothing");
        for (int v : NO_VARIABLES) {
            for (Text text : REFUSED) {
                PromotedNumbers x = ready(text.typed);
                Check.due("fetch " + v, Check.fetch(x, v), Check.NO_VARIABLE);
                unchanged("fetch " + v, x, text, FAULT_BEFORE);
            }
        }
    }

    private static void refusedAgainAndAgain() {
        Check.sentence("Term: a call that throws", "changes nothing, but for what fault() tells");
        for (Text text : REFUSED) {
            PromotedNumbers x = ready(text.typed);
            for (int i = 0; i < 10; i++) {
                Check.due("work", Check.work(x), text.thrown);
                Check.due("keep", Check.keep(x, i % 8), text.thrown);
                Check.due("keep without a variable", Check.keep(x, 8), Check.NO_VARIABLE);
                Check.due("type", x.type(Check.row("1\n")), false);
                Check.due("against", Check.against(x, 8), Check.NO_VARIABLE);
                Check.due("fetch", Check.fetch(x, -1), Check.NO_VARIABLE);
            }
            unchanged("refused calls with " + text.typed, x, text, text.fault);
        }
    }

    /** What a text had open when it failed must not take the next one's brackets and arguments. */
    private static void roomBehindRefusals() {
        Check.sentence("Term: a call that throws", "changes nothing: 12 brackets and 58 arguments behind it");
        String[] failing = {
            "(+ ".repeat(11) + "(/ 0)" + ")".repeat(11), "(+ ".repeat(11) + "(^ 1 65)" + ")".repeat(11),
            "(+ 1 ".repeat(5) + "9".repeat(80) + ")".repeat(5), "(+" + " 1".repeat(55) + " (/ 0))",
            "(+ ".repeat(12) + "(", "(+ ".repeat(12), "(n ".repeat(11) + "(n))",
        };
        for (String text : failing) {
            PromotedNumbers x = Check.typed(text);
            for (int i = 0; i < 30; i++) {
                Check.due("work " + text + " throws", Check.work(x).length() > 1, true);
                Check.due("keep " + text + " throws", Check.keep(x, 0).length() > 1, true);
            }
            x.erase();
            Check.type(x, "(- ".repeat(12) + "5" + ")".repeat(12));
            Check.due("work 12 brackets", Check.work(x), "0");
            Check.due("their value", Check.written(x), "5");
            x.erase();
            Check.type(x, "(+" + " 1".repeat(58) + ")");
            Check.due("work 58 arguments", Check.work(x), "0");
            Check.due("their sum", Check.written(x), "58");
        }
    }

    private static void callsThatOnlyTell() {
        Check.sentence("Promises 4 and 7 to 11", "fault, form, sign, digit, bits and against only tell");
        for (Text text : REFUSED) {
            PromotedNumbers x = ready(text.typed);
            for (int i = -1; i < 10; i++) {
                x.fault();
                x.form();
                x.sign();
                x.digit(i);
                x.bits(i, i);
                Check.against(x, i);
            }
            unchanged("calls that only tell", x, text, FAULT_BEFORE);
        }
    }

    private static void typeChangesTheText() {
        Check.sentence("Promise 2: type", "Puts characters behind the text .. up to the first that are 0");
        PromotedNumbers x = ready("(- 70 8");
        Check.due("type", x.type(Check.row(" 3")), true);
        unchanged("type", x, new Text("(- 70 8 3", "", NONE, ")", "59"), FAULT_BEFORE);
        x = ready("(- 70 8");
        Check.due("type nothing", x.type(0), true);
        unchanged("type nothing", x, new Text("(- 70 8", "", NONE, " 3)", "59"), FAULT_BEFORE);
    }

    private static void eraseChangesTheText() {
        Check.sentence("Promise 3: erase", "The text has no characters then");
        for (Text text : REFUSED) {
            PromotedNumbers x = ready(text.typed);
            Check.due("erase", x.erase(), text.typed.length());
            unchanged("erase", x, new Text("", "", NONE, "5", "5"), FAULT_BEFORE);
        }
    }

    private static void workChangesTheResult() {
        Check.sentence("Promise 5: work", "Works the text out; the result becomes its value");
        PromotedNumbers x = ready(EXPRESSION.typed);
        Check.due("work", Check.work(x), "2");
        Portrait seen = portrait(x, "");
        Check.due("fault", seen.fault, NONE);
        Check.due("the result", seen.result, "2 -1 -1/2 1 2 0 0 0 0 1 -1 -1 -1 1 -1 1 -1");
        Check.due("the text", seen.text, textDue(EXPRESSION));
        Check.due("the variables", seen.variables, VARIABLES_BEFORE);
    }

    private static void keepChangesOneVariable() {
        Check.sentence("Promise 6: keep", "variable v gets the value, too, and the text has no characters then");
        for (int v = 0; v < 8; v++) {
            PromotedNumbers x = ready(EXPRESSION.typed);
            Check.due("keep " + v, Check.keep(x, v), "2");
            Portrait seen = portrait(x, "5");
            String[] against = {"1", "-1", "-1", "-1", "1", "-1", "1", "-1"};
            against[v] = "0";
            Check.due("fault behind keep " + v, seen.fault, NONE);
            Check.due("the result behind keep " + v, seen.result, "2 -1 -1/2 1 2 0 0 0 0 " + String.join(" ", against));
            Check.due("the text behind keep " + v, seen.text, textDue(new Text("", "", NONE, "5", "5")));
            String[] after = VARIABLES_BEFORE.split(" ");
            after[2 * v] = "2";
            after[2 * v + 1] = "-1/2";
            Check.due("the variables behind keep " + v, seen.variables, String.join(" ", after));
        }
    }

    private static void fetchChangesTheResult() {
        Check.sentence("Promise 12: fetch", "The result becomes the content of variable v");
        for (Text text : REFUSED) {
            PromotedNumbers x = ready(text.typed);
            Check.due("fetch", Check.fetch(x, 5), "2");
            Portrait seen = portrait(x, text.rest);
            Check.due("fault", seen.fault, FAULT_BEFORE);
            Check.due("the result", seen.result, "2 1 1/3 1 3 0 0 0 0 1 1 -1 -1 1 0 1 -1");
            Check.due("the text", seen.text, textDue(text));
            Check.due("the variables", seen.variables, VARIABLES_BEFORE);
        }
    }
}
