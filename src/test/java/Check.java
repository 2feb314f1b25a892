import java.math.BigInteger;

/** What the tests share: typing texts, reading answers, and telling those that are not due. */
final class Check {
    static final BigInteger LIMIT = BigInteger.ONE.shiftLeft(240);

    private static int wrong = 0;
    private static int checked = 0;

    private Check() {
    }

    static void due(String call, Object got, Object want) {
        checked++;
        if (!want.equals(got)) {
            wrong++;
            System.out.println(call + " answered " + got + ", due is " + want);
        }
    }

    static void end() {
        System.out.println(wrong + " of " + checked + " answers are not as due");
        if (wrong != 0 || checked == 0) {
            System.exit(1);
        }
    }

    static long row(String characters) {
        long row = 0;
        for (int i = 0; i < characters.length(); i++) {
            row |= (long) (characters.charAt(i) & 255) << (8 * i);
        }
        return row;
    }

    static boolean type(PromotedNumbers x, String text) {
        boolean taken = true;
        for (int i = 0; i < text.length(); i += 8) {
            taken &= x.type(row(text.substring(i, Math.min(i + 8, text.length()))));
        }
        return taken;
    }

    /** A new object with this text. */
    static PromotedNumbers typed(String text) {
        PromotedNumbers x = new PromotedNumbers();
        due("type " + text, type(x, text), true);
        return x;
    }

    /** The form that work() answers, or the name of what it throws. */
    static String work(PromotedNumbers x) {
        try {
            return String.valueOf(x.work());
        } catch (RuntimeException e) {
            return e.getClass().getSimpleName();
        }
    }

    static String keep(PromotedNumbers x, int v) {
        try {
            return String.valueOf(x.keep(v));
        } catch (RuntimeException e) {
            return e.getClass().getSimpleName();
        }
    }

    static String against(PromotedNumbers x, int v) {
        try {
            return String.valueOf(x.against(v));
        } catch (RuntimeException e) {
            return e.getClass().getSimpleName();
        }
    }

    static String fetch(PromotedNumbers x, int v) {
        try {
            return String.valueOf(x.fetch(v));
        } catch (RuntimeException e) {
            return e.getClass().getSimpleName();
        }
    }

    /** The result written out, by digit(). */
    static String written(PromotedNumbers x) {
        StringBuilder all = new StringBuilder();
        for (int i = 0; i < 200 && x.digit(i) != 0; i++) {
            all.append(x.digit(i));
        }
        return all.toString();
    }

    static void setVariable(PromotedNumbers x, int v, String text) {
        x.erase();
        type(x, text);
        String kept = keep(x, v);
        due("keep " + text + " is kept", kept.length(), 1);
    }
}
