import java.math.BigDecimal;

/** Promises 39 to 42: growth. */
public final class GrowthTest {
    public static void main(String[] args) {
        promise39Growth();
        promise40GrowthAgainst();
        promise41GrowthOrder();
        promise42GrowthNear();
        onlyOfAnExp();
        wrongArguments();
        Due.finish();
    }

    private static void promise39Growth() {
        for (int k = -160; k <= 160; k++) {
            Steadygrowth x = new Steadygrowth();
            x.putExp(0, k);
            for (int n = 1; n <= 64; n++) {
                boolean isLet = 8 * n > Math.abs(k);
                int below = !isLet ? -9 : k == 0 ? 0 : -1;
                int above = !isLet ? -9 : k == 0 ? 0 : 1;
                Due.is("growth from below " + k + " in " + n, x.growth(0, n, false), below);
                Due.is("growth from above " + k + " in " + n, x.growth(0, n, true), above);
            }
        }
    }

    private static void promise40GrowthAgainst() {
        for (int k = -160; k <= 160; k += 3) {
            for (int n = 1; n <= 64; n += 1 + n / 4) {
                againstAround(k, n, false);
                againstAround(k, n, true);
            }
        }
        Steadygrowth x = new Steadygrowth();
        x.putExp(0, 160);
        x.putExp(1, -160);
        x.putExp(2, 0);
        x.putExp(3, 1);
        x.putExp(4, -1);
        Due.is("21 to 21 is beyond all", x.growthAgainst(160, 21, true, 0), 1);
        Due.is("1 to 21 over 21 is below all", x.growthAgainst(-160, 21, false, 1), -1);
        Due.is("1 and EXP 0", x.growthAgainst(0, 1, true, 2), 0);
        Due.is("1 and EXP 0", x.growthAgainst(0, 64, false, 2), 0);
        Due.is("1 and EXP 1", x.growthAgainst(0, 9, false, 3), -1);
        Due.is("1 and EXP -1", x.growthAgainst(0, 9, true, 4), 1);
        Due.is("no GROWTH", x.growthAgainst(8, 1, true, 4), -9);
        Due.is("no GROWTH", x.growthAgainst(-8, 1, false, 4), -9);
        Due.is("no GROWTH, but asking is no act", x.house(1), 0);
    }

    /** GROWTH held against the EXP that lie next to it, and those at the ends. */
    private static void againstAround(int k, int n, boolean isAbove) {
        int next = k;
        if (Truth.hasGrowth(k, n)) {
            BigDecimal growth = Truth.growth(k, n, isAbove);
            while (next < 160 && Truth.power(next).compareTo(growth) < 0) {
                next++;
            }
            while (next > -160 && Truth.power(next).compareTo(growth) > 0) {
                next--;
            }
        }
        Steadygrowth x = new Steadygrowth();
        for (int at : new int[] {next - 1, next, next + 1, -160, 160}) {
            if (at >= -160 && at <= 160) {
                x.putExp(5, at);
                int want = -9;
                if (Truth.hasGrowth(k, n)) {
                    double digits = Truth.digits(Answers.of(Answers.EXP, at));
                    want = Truth.growth(k, n, isAbove).compareTo(new BigDecimal(digits));
                }
                String what = "growth of " + k + " in " + n + " from above " + isAbove + " against EXP " + at;
                Due.is(what, x.growthAgainst(k, n, isAbove, 5), want);
            }
        }
    }

    private static void promise41GrowthOrder() {
        Steadygrowth x = new Steadygrowth();
        for (int k = -160; k <= 160; k += 4) {
            for (int n = 1; n <= 64; n += 5) {
                for (int m = 1; m <= 64; m += 3) {
                    boolean isLet = 8 * n > Math.abs(k) && 8 * m > Math.abs(k);
                    int rise = k == 0 ? 0 : Integer.compare(n, m);
                    String what = "growthOrder of " + k + " in " + n + " and " + m;
                    Due.is(what + " from below", x.growthOrder(k, n, m, false), isLet ? rise : -9);
                    Due.is(what + " from above", x.growthOrder(k, n, m, true), isLet ? -rise : -9);
                }
            }
        }
        Due.is("growthOrder, none in the first", x.growthOrder(-40, 5, 6, false), -9);
        Due.is("growthOrder, none in the second", x.growthOrder(-40, 6, 5, false), -9);
        Due.is("growthOrder, both", x.growthOrder(-40, 6, 7, false), -1);
        Due.is("growthOrder bears out", Truth.growth(-40, 6, false).compareTo(Truth.growth(-40, 7, false)), -1);
        Due.is("growthOrder of 0", x.growthOrder(0, 1, 64, true), 0);
        Due.is("growthOrder of the same", x.growthOrder(40, 9, 9, true), 0);
    }

    private static void promise42GrowthNear() {
        for (int k = -160; k <= 160; k++) {
            Steadygrowth x = new Steadygrowth();
            x.putExp(0, k);
            for (int n = 1; n <= 64; n++) {
                Due.is("growthNear " + k + " in " + n, x.growthNear(0, n), 8 * n > Math.abs(k) ? 1 : -9);
            }
        }
    }

    private static void onlyOfAnExp() {
        for (int kind = 0; kind < 10; kind++) {
            if (kind != 1) {
                Steadygrowth x = new Steadygrowth();
                (kind == 4 ? new Answers(4, 0, 8) : Answers.of(kind, 8)).putInto(x, 0);
                Due.is("growth of kind " + kind, x.growth(0, 9, false), -9);
                Due.is("growthAgainst kind " + kind, x.growthAgainst(8, 9, false, 0), -9);
                Due.is("growthNear of kind " + kind, x.growthNear(0, 9), -9);
                Due.is("asking is no act", x.house(1), 0);
            }
        }
    }

    private static void wrongArguments() {
        Steadygrowth x = new Steadygrowth();
        x.putExp(0, 8);
        for (int wrong : new int[] {8, -1, Integer.MAX_VALUE, Integer.MIN_VALUE}) {
            Due.index("growth", () -> x.growth(wrong, 0, false));
            Due.index("growthAgainst", () -> x.growthAgainst(161, 0, false, wrong));
            Due.index("growthNear", () -> x.growthNear(wrong, 65));
        }
        for (int cell : new int[] {0, 1}) {
            for (int wrong : new int[] {0, 65, -1, Integer.MAX_VALUE, Integer.MIN_VALUE}) {
                Due.argument("growth", () -> x.growth(cell, wrong, true));
                Due.argument("growthAgainst", () -> x.growthAgainst(8, wrong, true, cell));
                Due.argument("growthNear", () -> x.growthNear(cell, wrong));
                Due.argument("growthOrder", () -> x.growthOrder(160, wrong, 1, true));
                Due.argument("growthOrder", () -> x.growthOrder(160, 1, wrong, true));
            }
            for (int wrong : new int[] {161, -161, Integer.MAX_VALUE, Integer.MIN_VALUE}) {
                Due.argument("growthAgainst", () -> x.growthAgainst(wrong, 1, true, cell));
                Due.argument("growthOrder", () -> x.growthOrder(wrong, 1, 1, true));
            }
        }
    }
}
