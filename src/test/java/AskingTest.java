import java.math.BigDecimal;

/** Promises 18 to 30: what an ANSWER is. */
public final class AskingTest {
    private static final int NONE = -2147483648;

    public static void main(String[] args) {
        everyAnswerAsThisDocumentSays();
        promises18And19KindAndEighths();
        promise20IsExact();
        promises21And22UpperAndLower();
        promise23Sign();
        promise24Lead();
        promise25Head();
        promise26Tail();
        promise27Digits();
        promise28FloorOf();
        promise29Nearest();
        promise30Back();
        wrongArguments();
        Due.finish();
    }

    private static Steadygrowth with(int kind, int first) {
        return with(Answers.of(kind, first));
    }

    private static Steadygrowth with(Answers a) {
        Steadygrowth x = new Steadygrowth();
        a.putInto(x, 0);
        return x;
    }

    /** Every ANSWER by its true number to 90 decimals. */
    private static void everyAnswerAsThisDocumentSays() {
        for (Answers a : Answers.most()) {
            Steadygrowth x = with(a);
            BigDecimal value = Truth.value(a);
            boolean isClear = Truth.isClear(a);
            boolean isTold = isClear && value.signum() != 0;
            long first45 = isTold ? Truth.head(value.abs(), 45) : 0;
            int lead = isTold ? Truth.lead(value.abs()) : NONE;
            Due.is(a + " kind", x.kind(0), a.kind());
            Due.is(a + " first", x.eighths(0, 0), a.first());
            Due.is(a + " second", x.eighths(0, 1), a.second());
            Due.is(a + " isExact", x.isExact(0), Truth.isExact(a));
            Due.is(a + " upper", x.upper(0), Truth.isExact(a) ? (int) (Truth.bits(a) >> 32) : NONE);
            Due.is(a + " lower", x.lower(0), Truth.isExact(a) ? (int) Truth.bits(a) : NONE);
            Due.is(a + " sign", x.sign(0), value.signum());
            Due.is(a + " lead", x.lead(0), lead);
            Due.is(a + " tail", x.tail(0), isClear ? (int) (first45 & 16383) : NONE);
            headsOf(a, x, isClear, first45, lead);
            floorsOf(a, x, value, isClear);
            nearestOf(a, x, value);
            Due.is(a + " back", x.back(0), a.kind() == 2 ? a.first() : NONE);
        }
    }

    private static void headsOf(Answers a, Steadygrowth x, boolean isClear, long first45, int lead) {
        String all = first45 == 0 ? "0".repeat(45) : Long.toBinaryString(first45);
        for (int many = 1; many <= 45; many++) {
            String text = "";
            if (isClear) {
                text = first45 == 0 ? "0" : (x.sign(0) < 0 ? "-" : "") + all.substring(0, many) + " " + lead;
            }
            Due.is(a + " digits " + many, x.digits(0, many), text);
            if (many <= 31) {
                long head = Long.parseLong(all.substring(0, many), 2);
                Due.is(a + " head " + many, x.head(0, many), isClear ? head : NONE);
            }
        }
    }

    private static void floorsOf(Answers a, Steadygrowth x, BigDecimal value, boolean isClear) {
        for (int scale = 0; scale <= 40; scale++) {
            BigDecimal scaled = value.multiply(Truth.two(scale));
            boolean isTold = isClear && scaled.abs().compareTo(Truth.two(30)) < 0;
            Due.is(a + " floorOf " + scale, x.floorOf(0, scale), isTold ? Truth.floor(scaled).intValueExact() : NONE);
        }
    }

    private static void nearestOf(Answers a, Steadygrowth x, BigDecimal value) {
        long nearest = Truth.floor(value.multiply(BigDecimal.valueOf(8)).add(new BigDecimal("0.5"))).longValueExact();
        Due.is(a + " nearest", x.nearest(0), Math.abs(nearest) > 1000000000 ? NONE : nearest);
    }

    private static void promises18And19KindAndEighths() {
        Steadygrowth x = with(new Answers(4, -3, 9));
        Due.is("kind", x.kind(0), 4);
        Due.is("eighths 0", x.eighths(0, 0), -3);
        Due.is("eighths 1", x.eighths(0, 1), 9);
        Due.argument("eighths 2", () -> x.eighths(0, 2));
        Due.argument("eighths -1", () -> x.eighths(0, -1));
        Due.index("eighths cell first", () -> x.eighths(8, 2));
    }

    private static void promise20IsExact() {
        Due.is("BACK -7", with(7, -7).isExact(0), false);
        Due.is("BACK -3", with(7, -3).isExact(0), false);
        Due.is("BACK -8", with(7, -8).isExact(0), true);
        Due.is("BACK 160", with(7, 160).isExact(0), true);
        Due.is("THERE 0", with(8, 0).isExact(0), true);
        Due.is("THERE 8", with(8, 8).isExact(0), false);
        Due.is("WHOLE 0", with(9, 0).isExact(0), true);
        Due.is("WHOLE -7", with(9, -7).isExact(0), false);
        Due.is("MORE 0", with(6, 0).isExact(0), true);
        Due.is("LESS 6", with(5, 6).isExact(0), false);
        Due.is("PRODUCT 0 0", with(new Answers(4, 0, 0)).isExact(0), true);
        Due.is("PRODUCT -8 8", with(new Answers(4, -8, 8)).isExact(0), false);
        Due.is("PRODUCT 0 8", with(new Answers(4, 0, 8)).isExact(0), false);
    }

    private static void promises21And22UpperAndLower() {
        Due.is("upper of 1", with(0, 8).upper(0), 0x3FF00000);
        Due.is("upper of -1", with(0, -8).upper(0), 0xBFF00000);
        Due.is("upper of 1.125", with(0, 9).upper(0), 0x3FF20000);
        Due.is("upper of 1 / 8", with(0, 1).upper(0), 0x3FC00000);
        Due.is("upper of 20", with(0, 160).upper(0), 0x40340000);
        Due.is("upper of BACK -8", with(7, -8).upper(0), 0xBFF00000);
        Due.is("upper of BACK -7", with(7, -7).upper(0), NONE);
        Due.is("upper of EXP 8", with(1, 8).upper(0), NONE);
        Due.is("upper of EXPM1 0", with(2, 0).upper(0), 0);
        Due.is("lower of EXPM1 0", with(2, 0).lower(0), 0);
        Due.is("lower of 1.125", with(0, 9).lower(0), 0);
        Due.is("lower of EXP 8", with(1, 8).lower(0), NONE);
        Due.is("lower of WHOLE 1", with(9, 1).lower(0), NONE);
    }

    private static void promise23Sign() {
        Due.is("sign of EXP -160", with(1, -160).sign(0), 1);
        Due.is("sign of EXPM1 -1", with(2, -1).sign(0), -1);
        Due.is("sign of LOG1P -1", with(3, -1).sign(0), -1);
        Due.is("sign of LOG1P 0", with(3, 0).sign(0), 0);
        Due.is("sign of THERE -7", with(8, -7).sign(0), -1);
        Due.is("sign of WHOLE -7", with(9, -7).sign(0), 1);
        Due.is("sign of BACK 0", with(7, 0).sign(0), 0);
        Due.is("sign of ARGUMENT -160", with(0, -160).sign(0), -1);
        Due.is("sign of LESS -9", with(5, -9).sign(0), -1);
    }

    private static void promise24Lead() {
        Due.is("lead of EXP -160", with(1, -160).lead(0), -29);
        Due.is("lead of EXP 160", with(1, 160).lead(0), 28);
        Due.is("lead of EXPM1 -160", with(2, -160).lead(0), -1);
        Due.is("lead of EXPM1 0", with(2, 0).lead(0), NONE);
        Due.is("lead of EXP 0", with(1, 0).lead(0), 0);
        Due.is("lead of 1 / 8", with(0, 1).lead(0), -3);
        Due.is("lead of BACK -7", with(7, -7).lead(0), NONE);
        Due.is("lead of PRODUCT -8 8", with(new Answers(4, -8, 8)).lead(0), NONE);
        Due.is("lead of PRODUCT 0 0", with(new Answers(4, 0, 0)).lead(0), 0);
        Due.is("lead of a new cell", new Steadygrowth().lead(5), NONE);
    }

    private static void promise25Head() {
        Due.is("head of 1.5", with(0, 12).head(0, 2), 3);
        Due.is("head of -1.5", with(0, -12).head(0, 4), 12);
        Due.is("head 1 of EXP 8", with(1, 8).head(0, 1), 1);
        Due.is("head 31 of 1", with(0, 8).head(0, 31), 1 << 30);
        Due.is("head of 0", with(0, 0).head(0, 31), 0);
        Due.is("head of THERE 0", with(8, 0).head(0, 31), 0);
        Due.is("head of THERE 1", with(8, 1).head(0, 31), NONE);
    }

    private static void promise26Tail() {
        Due.is("tail of EXP 12", with(1, 12).tail(0), 4037);
        Due.is("tail of 19.875", with(0, 159).tail(0), 0);
        Due.is("tail of 0", with(0, 0).tail(0), 0);
        Due.is("tail of WHOLE 5", with(9, 5).tail(0), NONE);
    }

    private static void promise27Digits() {
        Due.is("digits of EXP 12", with(1, 12).digits(0, 45), "100011110110100111111111001100100111111000101 2");
        Due.is("digits of -1.5", with(0, -12).digits(0, 3), "-110 0");
        Due.is("digits of LOG1P -7", with(3, -7).digits(0, 5), "-10000 1");
        Due.is("digits of EXP -160", with(1, -160).digits(0, 1), "1 -29");
        Due.is("digits of 0", with(0, 0).digits(0, 45), "0");
        Due.is("digits of WHOLE 5", with(9, 5).digits(0, 45), "");
    }

    private static void promise28FloorOf() {
        Due.is("floor of -3 / 8", with(0, -3).floorOf(0, 0), -1);
        Due.is("floor of -3 / 8 * 8", with(0, -3).floorOf(0, 3), -3);
        Due.is("floor of -3 / 8 * 4", with(0, -3).floorOf(0, 2), -2);
        Due.is("floor of -1 / 8", with(0, -1).floorOf(0, 0), -1);
        Due.is("floor of 1 / 8", with(0, 1).floorOf(0, 2), 0);
        Due.is("floor of 1 at 29", with(0, 8).floorOf(0, 29), 1 << 29);
        Due.is("floor of 1 at 30", with(0, 8).floorOf(0, 30), NONE);
        Due.is("floor of -1 at 30", with(0, -8).floorOf(0, 30), NONE);
        Due.is("floor of 0 at 40", with(0, 0).floorOf(0, 40), 0);
        Due.is("floor of EXPM1 -160 at 29", with(2, -160).floorOf(0, 29), -536870911);
        Due.is("floor of EXP 160", with(1, 160).floorOf(0, 0), 485165195);
        Due.is("floor of EXP -160", with(1, -160).floorOf(0, 0), 0);
        Due.is("floor of LESS -160", with(5, -160).floorOf(0, 0), -1);
        Due.is("floor of BACK -7", with(7, -7).floorOf(0, 0), NONE);
        Due.is("floor of BACK -8", with(7, -8).floorOf(0, 0), -1);
    }

    private static void promise29Nearest() {
        Due.is("nearest of EXP 8", with(1, 8).nearest(0), 22);
        Due.is("nearest of EXPM1 -160", with(2, -160).nearest(0), -8);
        Due.is("nearest of EXP -160", with(1, -160).nearest(0), 0);
        Due.is("nearest of LOG1P -7", with(3, -7).nearest(0), -17);
        Due.is("nearest of THERE -7", with(8, -7).nearest(0), -7);
        Due.is("nearest of WHOLE 160", with(9, 160).nearest(0), 168);
        Due.is("nearest of BACK -3", with(7, -3).nearest(0), -3);
        Due.is("nearest of PRODUCT -9 9", with(new Answers(4, -9, 9)).nearest(0), 8);
        Due.is("nearest of EXP 149", with(1, 149).nearest(0), 981351775);
        Due.is("nearest of EXP 150", with(1, 150).nearest(0), NONE);
        Due.is("nearest of a new cell", new Steadygrowth().nearest(3), 0);
    }

    private static void promise30Back() {
        for (int k = -160; k <= 160; k++) {
            Due.is("back of EXPM1 " + k, with(2, k).back(0), k);
            Due.is("back of EXP " + k, with(1, k).back(0), NONE);
        }
    }

    private static void wrongArguments() {
        Steadygrowth x = new Steadygrowth();
        x.putExp(0, 3);
        for (int cell : new int[] {8, -1, Integer.MAX_VALUE, Integer.MIN_VALUE}) {
            Due.index("kind", () -> x.kind(cell));
            Due.index("eighths", () -> x.eighths(cell, 0));
            Due.index("isExact", () -> x.isExact(cell));
            Due.index("upper", () -> x.upper(cell));
            Due.index("lower", () -> x.lower(cell));
            Due.index("sign", () -> x.sign(cell));
            Due.index("lead", () -> x.lead(cell));
            Due.index("head", () -> x.head(cell, 32));
            Due.index("tail", () -> x.tail(cell));
            Due.index("digits", () -> x.digits(cell, 46));
            Due.index("floorOf", () -> x.floorOf(cell, 41));
            Due.index("nearest", () -> x.nearest(cell));
            Due.index("back", () -> x.back(cell));
        }
        x.expm1(1, 2);
        x.log1p(2, 3);
        for (int cell : new int[] {0, 1, 3}) {
            for (int wrong : new int[] {0, 32, -1, Integer.MAX_VALUE}) {
                Due.argument("head " + wrong, () -> x.head(cell, wrong));
            }
            for (int wrong : new int[] {0, 46, -1, Integer.MIN_VALUE}) {
                Due.argument("digits " + wrong, () -> x.digits(cell, wrong));
            }
            for (int wrong : new int[] {-1, 41, Integer.MAX_VALUE}) {
                Due.argument("floorOf " + wrong, () -> x.floorOf(cell, wrong));
            }
        }
        x.putLog1p(4, 5);
        x.exp(4, 4);
        Due.argument("exceptions go ahead of NONE: head", () -> x.head(4, 0));
        Due.argument("exceptions go ahead of NONE: digits", () -> x.digits(4, 0));
        Due.argument("exceptions go ahead of NONE: floorOf", () -> x.floorOf(4, 41));
    }
}
