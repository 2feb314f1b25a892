import java.math.BigInteger;

/** What the tests share: typing texts, reading answers, and telling those that are not due. */
final class Check {
    static final BigInteger LIMIT = BigInteger.ONE.shiftLeft(240);
    /** The highest amount that is not too large. */
    static final String HIGHEST = LIMIT.subtract(BigInteger.ONE).toString();
    static final BigInteger LARGE_FROM = BigInteger.ONE.shiftLeft(62);

    static final String NO_VARIABLE = "IndexOutOfBoundsException";
    static final String NO_EXPRESSION = "IllegalArgumentException";
    static final String TOO_LARGE = "UnsupportedOperationException";
    static final String BY_ZERO = "ArithmeticException";
    static final String UNFIT = "IllegalStateException";

    private static String sentence = "";
    private static int checkedBefore = 0;
    private static int sentences = 0;
    private static int wrong = 0;
    private static int checked = 0;

    private Check() {
    }

    /** What is checked from now on, up to the next sentence, holds against these words of the document. */
    static void sentence(String name, String words) {
        endSentence();
        sentence = name + " (" + words + "): ";
        sentences++;
    }

    private static void endSentence() {
        if (!sentence.isEmpty() && checked == checkedBefore) {
            wrong++;
            System.out.println(sentence + "nothing was checked");
        }
        checkedBefore = checked;
        sentence = "";
    }

    static void due(String call, Object got, Object want) {
        checked++;
        if (!want.equals(got)) {
            wrong++;
            System.out.println(sentence + call + " answered " + got + ", due is " + want);
        }
    }

    static void end() {
        endSentence();
        System.out.println(sentences + " sentences, " + checked + " answers, " + wrong + " not as due");
        if (wrong != 0 || checked == 0) {
            System.exit(1);
        }
    }

    static long row(String characters) {
        long row = 0;
        for (int i = 0; i < characters.length(); i++) {
            row |= (long) (characters.charAt(i) & 255) << (8 * i);
        }
        return row;
    }

    static boolean type(PromotedNumbers x, String text) {
        boolean taken = true;
        for (int i = 0; i < text.length(); i += 8) {
            taken &= x.type(row(text.substring(i, Math.min(i + 8, text.length()))));
        }
        return taken;
    }

    /** A new object with this text, and with variables a, b, .. kept before. */
    static PromotedNumbers typed(String text, String... kept) {
        PromotedNumbers x = new PromotedNumbers();
        for (int v = 0; v < kept.length; v++) {
            setVariable(x, v, kept[v]);
        }
        due("type " + text, type(x, text), true);
        return x;
    }

    /** The form that work() answers, or the name of what it throws. */
    static String work(PromotedNumbers x) {
        try {
            return String.valueOf(x.work());
        } catch (RuntimeException e) {
            return e.getClass().getSimpleName();
        }
    }

    static String keep(PromotedNumbers x, int v) {
        try {
            return String.valueOf(x.keep(v));
        } catch (RuntimeException e) {
            return e.getClass().getSimpleName();
        }
    }

    static String against(PromotedNumbers x, int v) {
        try {
            return String.valueOf(x.against(v));
        } catch (RuntimeException e) {
            return e.getClass().getSimpleName();
        }
    }

    static String fetch(PromotedNumbers x, int v) {
        try {
            return String.valueOf(x.fetch(v));
        } catch (RuntimeException e) {
            return e.getClass().getSimpleName();
        }
    }

    /** The result written out, by digit(). */
    static String written(PromotedNumbers x) {
        StringBuilder all = new StringBuilder();
        char c = x.digit(0);
        for (int i = 1; i < 200 && c != 0; i++) {
            all.append(c);
            c = x.digit(i);
        }
        return all.toString();
    }

    static void setVariable(PromotedNumbers x, int v, String text) {
        x.erase();
        type(x, text);
        String kept = keep(x, v);
        due("keep " + text + " is kept", kept.length(), 1);
    }

    static String power(int two) {
        return BigInteger.ONE.shiftLeft(two).toString();
    }

    static String power(int two, int more) {
        return BigInteger.ONE.shiftLeft(two).add(BigInteger.valueOf(more)).toString();
    }

    /** The form of a number that is written out. */
    static String formOf(String value) {
        if (value.indexOf('/') >= 0) {
            return "2";
        }
        return new BigInteger(value).abs().compareTo(LARGE_FROM) < 0 ? "0" : "1";
    }

    /** The text's value, with variables a, b, .. kept before: by work() and by keep(). */
    static void works(String text, String value, String... kept) {
        PromotedNumbers x = typed(text, kept);
        due("work " + text, work(x), formOf(value));
        due("the value of " + text, written(x), value);
        due("the fault of " + text, x.fault(), PromotedNumbers.NONE);
        due("keep " + text, keep(x, 7), formOf(value));
        due("the value of " + text + ", kept", written(x), value);
    }

    static void fails(String text, String exception, String... kept) {
        PromotedNumbers x = typed(text, kept);
        due("work " + text, work(x), exception);
        due("the fault of " + text, x.fault(), PromotedNumbers.NONE);
        due("keep " + text, keep(x, 7), exception);
    }

    static void faultAt(String text, int place) {
        PromotedNumbers x = typed(text);
        due("work " + text, work(x), NO_EXPRESSION);
        due("the fault of " + text, x.fault(), place);
        x = typed(text);
        due("keep " + text, keep(x, 0), NO_EXPRESSION);
        due("the fault of " + text + ", kept", x.fault(), place);
    }

    /** It is an expression, whether it fails or not. */
    static void noFault(String text) {
        PromotedNumbers x = typed(text);
        due("work " + text + " finds an expression", work(x).equals(NO_EXPRESSION), false);
        due("the fault of " + text, x.fault(), PromotedNumbers.NONE);
    }
}
