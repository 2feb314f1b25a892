import java.math.BigInteger;
import java.util.Random;

/** Numbers whose limbs of 30 bits lie at the edges, where carries and guessed quotients go wrong first. */
public final class LimbsTest {
    private static final int PAIRS = 20000;
    private static final int[] EDGES = {
        0, 0, 1, 2, (1 << 29) - 1, 1 << 29, 1 << 29, (1 << 29) + 1, (1 << 30) - 2, (1 << 30) - 1, (1 << 30) - 1,
    };

    private LimbsTest() {
    }

    public static void main(String[] args) {
        Check.sentence("Table: q, r, g, - and /", "of two whole numbers that are not too large");
        Random random = new Random(1);
        for (int i = 0; i < PAIRS; i++) {
            BigInteger a = number(random);
            BigInteger b = number(random).max(BigInteger.ONE);
            PromotedNumbers x = new PromotedNumbers();
            Check.setVariable(x, 0, a.toString());
            Check.setVariable(x, 1, b.toString());
            BigInteger common = a.gcd(b);
            boolean whole = b.equals(common);
            evaluates(x, "(q a b)", a.divide(b).toString());
            evaluates(x, "(r a b)", a.remainder(b).toString());
            evaluates(x, "(g a b)", common.toString());
            evaluates(x, "(- a b)", a.subtract(b).toString());
            evaluates(x, "(/ a b)", a.divide(common) + (whole ? "" : "/" + b.divide(common)));
        }
        Check.end();
    }

    private static BigInteger number(Random random) {
        BigInteger number = BigInteger.ZERO;
        for (int limbs = 1 + random.nextInt(8); limbs > 0; limbs--) {
            int limb = random.nextInt(5) == 0 ? random.nextInt(1 << 30) : EDGES[random.nextInt(EDGES.length)];
            number = number.shiftLeft(30).add(BigInteger.valueOf(limb));
        }
        return number;
    }

    private static void evaluates(PromotedNumbers x, String text, String value) {
        x.erase();
        Check.type(x, text);
        Check.work(x);
        Check.due(text, Check.written(x), value);
    }
}
