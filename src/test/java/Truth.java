import java.math.BigDecimal;
import java.math.BigInteger;
import java.math.MathContext;
import java.math.RoundingMode;

/** True numbers to 90 decimals by the sums of section 6, and the digits of StrictMath. */
final class Truth {
    private static final int SCALE = 90;
    private static final BigDecimal END = BigDecimal.ONE.movePointLeft(SCALE);
    private static final BigDecimal[] POWERS = new BigDecimal[321];
    private static final BigDecimal[] LOGS = new BigDecimal[168];
    static final BigDecimal TWO = BigDecimal.valueOf(2);

    private Truth() {
    }

    static BigDecimal eighth(int k) {
        return new BigDecimal(k).divide(BigDecimal.valueOf(8));
    }

    static BigDecimal power(int k) {
        if (POWERS[k + 160] == null) {
            POWERS[k + 160] = k < 0
                    ? BigDecimal.ONE.divide(power(-k), SCALE, RoundingMode.DOWN) : sumOfPower(eighth(k));
        }
        return POWERS[k + 160];
    }

    private static BigDecimal sumOfPower(BigDecimal x) {
        BigDecimal sum = BigDecimal.ZERO;
        BigDecimal term = BigDecimal.ONE;
        for (int n = 0; n <= 40 || term.compareTo(END) > 0; n++) {
            sum = sum.add(term);
            term = term.multiply(x).divide(BigDecimal.valueOf(n + 1), SCALE, RoundingMode.DOWN);
        }
        return sum;
    }

    static BigDecimal log(int k) {
        if (LOGS[k + 7] == null) {
            LOGS[k + 7] = sumOfLog(k);
        }
        return LOGS[k + 7];
    }

    private static BigDecimal sumOfLog(int k) {
        BigDecimal z = new BigDecimal(k).divide(BigDecimal.valueOf(16 + k), SCALE, RoundingMode.DOWN);
        BigDecimal square = z.multiply(z).setScale(SCALE, RoundingMode.DOWN);
        BigDecimal sum = BigDecimal.ZERO;
        BigDecimal term = z;
        for (int n = 1; term.abs().compareTo(END) > 0; n += 2) {
            sum = sum.add(term.divide(BigDecimal.valueOf(n), SCALE, RoundingMode.DOWN));
            term = term.multiply(square).setScale(SCALE, RoundingMode.DOWN);
        }
        return sum.multiply(TWO);
    }

    static BigDecimal value(Answers a) {
        switch (a.kind()) {
            case Answers.EXP:
            case Answers.MORE:
                return power(a.first());
            case Answers.PRODUCT:
                return power(a.first() + a.second());
            case Answers.EXPM1:
            case Answers.LESS:
                return power(a.first()).subtract(BigDecimal.ONE);
            case Answers.LOG1P:
                return log(a.first());
            case Answers.WHOLE:
                return eighth(8 + a.first());
            default:
                return eighth(a.first());
        }
    }

    /** The 64 digits, as StrictMath and Java's doubles have them. */
    static double digits(Answers a) {
        double x = a.first() / 8.0;
        switch (a.kind()) {
            case Answers.EXP:
                return StrictMath.exp(x);
            case Answers.EXPM1:
                return StrictMath.expm1(x);
            case Answers.LOG1P:
                return StrictMath.log1p(x);
            case Answers.PRODUCT:
                return StrictMath.exp(x) * StrictMath.exp(a.second() / 8.0);
            case Answers.LESS:
                return StrictMath.exp(x) - 1;
            case Answers.MORE:
                return StrictMath.expm1(x) + 1;
            case Answers.BACK:
                return StrictMath.log1p(StrictMath.expm1(x));
            case Answers.THERE:
                return StrictMath.expm1(StrictMath.log1p(x));
            case Answers.WHOLE:
                return StrictMath.exp(StrictMath.log1p(x));
            default:
                return x;
        }
    }

    static long bits(Answers a) {
        return Double.doubleToRawLongBits(digits(a));
    }

    static boolean isExact(Answers a) {
        int k = a.first();
        switch (a.kind()) {
            case Answers.ARGUMENT:
                return true;
            case Answers.BACK:
                return k != -7 && k != -3;
            case Answers.LESS:
                return false;
            default:
                return k == 0 && a.second() == 0;
        }
    }

    static boolean isClear(Answers a) {
        boolean isProduct = a.kind() == Answers.PRODUCT;
        return isExact(a) || isProduct && a.first() + a.second() != 0
                || a.kind() >= 1 && a.kind() <= 6 && !isProduct;
    }

    /** 2 to a power that may be below 0. */
    static BigDecimal two(int power) {
        return power >= 0 ? TWO.pow(power) : BigDecimal.ONE.divide(TWO.pow(-power));
    }

    static int lead(BigDecimal size) {
        int p = -80;
        while (two(p + 1).compareTo(size) <= 0) {
            p++;
        }
        return p;
    }

    static BigInteger floor(BigDecimal number) {
        return number.setScale(0, RoundingMode.FLOOR).toBigInteger();
    }

    /** The first digits of a size above 0, as a whole number. */
    static long head(BigDecimal size, int many) {
        return floor(size.multiply(two(many - 1 - lead(size)))).longValueExact();
    }

    static BigDecimal unit(double digits) {
        return two(lead(new BigDecimal(digits).abs()) - 52);
    }

    /** How many numbers of 64 digits lie from one to the other, which has the same sign. */
    static long places(double one, double other) {
        return Math.abs(Double.doubleToRawLongBits(one) - Double.doubleToRawLongBits(other));
    }

    static boolean isWithin(BigDecimal number, double near, BigDecimal distance) {
        return number.subtract(new BigDecimal(near)).abs().compareTo(distance) <= 0;
    }

    /** Section 3: BELOW, LEVEL and LIKENESS. VALUES that are not the same are far more than 1e-60 apart. */
    static int order(Answers one, Answers other) {
        BigDecimal difference = value(one).subtract(value(other));
        return difference.abs().compareTo(new BigDecimal("1e-60")) < 0 ? 0 : difference.signum();
    }

    private static boolean isEighth(Answers a) {
        int kind = a.kind();
        return kind == 0 || kind >= 7 || a.first() + a.second() == 0;
    }

    private static int family(Answers a) {
        if (isEighth(a)) {
            return 0;
        }
        int kind = a.kind();
        return kind == 3 ? 3 : kind == 2 || kind == 5 ? 2 : 1;
    }

    /** By the lines of the document, not by the VALUES. */
    static boolean isLevel(Answers one, Answers other) {
        if (family(one) != family(other)) {
            return false;
        }
        if (isEighth(one)) {
            return value(one).compareTo(value(other)) == 0;
        }
        return one.first() + one.second() == other.first() + other.second();
    }

    private static boolean isPlainPower(Answers a) {
        return a.kind() == 1 || a.kind() == 6 || a.kind() == 4 && a.first() * a.second() == 0;
    }

    private static boolean isLessOne(Answers a) {
        return a.kind() == 2 || a.kind() == 5;
    }

    private static boolean isRoundBack(Answers a) {
        return a.kind() == 7 && !isExact(a);
    }

    static int likeness(Answers one, Answers other) {
        if (!isLevel(one, other)) {
            return 0;
        }
        if (one.equals(other)) {
            return 1;
        }
        if (isPlainPower(one) && isPlainPower(other)) {
            int more = one.kind() == 6 ? one.first() : other.first();
            boolean isOneMore = one.kind() == 6 ^ other.kind() == 6;
            return isOneMore && java.util.List.of(-7, -3, 8, 12, 87).contains(more) ? 0 : 1;
        }
        if (isLessOne(one) && isLessOne(other)) {
            return java.util.List.of(-20, 7, 8, 12, 61, 87).contains(one.first()) ? 0 : 1;
        }
        if (isExact(one) && isExact(other)) {
            return 1;
        }
        if (isExact(one) && isRoundBack(other) || isExact(other) && isRoundBack(one)) {
            return 0;
        }
        return -9;
    }

    static boolean hasGrowth(int k, int n) {
        return 8 * n > Math.abs(k);
    }

    /** To 90 digits, which is 1 for k = 0. */
    static BigDecimal growth(int k, int n, boolean isAbove) {
        MathContext context = new MathContext(SCALE);
        BigDecimal over = BigDecimal.valueOf(isAbove ? 8 * n : 8 * n + k);
        BigDecimal below = BigDecimal.valueOf(isAbove ? 8 * n - k : 8 * n);
        return over.pow(n).divide(below.pow(n), context);
    }
}
