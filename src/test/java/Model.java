import java.math.BigDecimal;
import java.math.BigInteger;

/** The document once more, slow and by true numbers and StrictMath, to hold the class against. */
final class Model {
    static final int NONE = -2147483648;
    private static final BigInteger FAR = BigInteger.valueOf(1000000000);

    private final Answers[] cells = new Answers[8];
    private int acts;
    private int refused;
    private int knocks;

    Model() {
        for (int i = 0; i < 8; i++) {
            cells[i] = Answers.of(Answers.ARGUMENT, 0);
        }
    }

    private static void cell(int... asked) {
        for (int one : asked) {
            if (one < 0 || one > 7) {
                throw new IndexOutOfBoundsException();
            }
        }
    }

    private static void within(int value, int least, int most) {
        if (value < least || value > most) {
            throw new IllegalArgumentException();
        }
    }

    private int come(int into, Answers a) {
        acts++;
        int told = cells[into].equals(a) ? 0 : 1;
        cells[into] = a;
        return told;
    }

    private int comeOr(boolean isLet, int into, int kind, int first) {
        if (!isLet) {
            refused++;
            return -9;
        }
        return come(into, Answers.of(kind, first));
    }

    int put(int kind, int cell, int eighths) {
        cell(cell);
        within(eighths, kind == Answers.LOG1P ? -7 : -160, 160);
        return come(cell, Answers.of(kind, eighths));
    }

    int exp(int from, int into) {
        cell(from, into);
        Answers a = cells[from];
        return comeOr(a.kind() == 0 || a.kind() == 3, into, a.kind() == 0 ? 1 : 9, a.first());
    }

    int expm1(int from, int into) {
        cell(from, into);
        Answers a = cells[from];
        return comeOr(a.kind() == 0 || a.kind() == 3, into, a.kind() == 0 ? 2 : 8, a.first());
    }

    int log1p(int from, int into) {
        cell(from, into);
        Answers a = cells[from];
        boolean isLet = a.kind() == 0 && a.first() >= -7 || a.kind() == 2 && a.first() >= -8;
        return comeOr(isLet, into, a.kind() == 0 ? 3 : 7, a.first());
    }

    int negate(int from, int into) {
        cell(from, into);
        return comeOr(cells[from].kind() == 0, into, 0, -cells[from].first());
    }

    int add(int one, int other, int into) {
        cell(one, other, into);
        int sum = cells[one].first() + cells[other].first();
        boolean isLet = cells[one].kind() == 0 && cells[other].kind() == 0 && sum >= -160 && sum <= 160;
        return comeOr(isLet, into, 0, sum);
    }

    int times(int one, int other, int into) {
        cell(one, other, into);
        Answers a = cells[one];
        Answers b = cells[other];
        int sum = a.first() + b.first();
        if (a.kind() != 1 || b.kind() != 1 || sum < -160 || sum > 160) {
            refused++;
            return -9;
        }
        return come(into, a.first() < b.first() ? new Answers(4, a.first(), b.first())
                : new Answers(4, b.first(), a.first()));
    }

    int lessOne(int from, int into) {
        cell(from, into);
        Answers a = cells[from];
        return comeOr(a.kind() == 1 && Answers.exists(5, a.first()), into, 5, a.first());
    }

    int plusOne(int from, int into) {
        cell(from, into);
        Answers a = cells[from];
        return comeOr(a.kind() == 2 && Answers.exists(6, a.first()), into, 6, a.first());
    }

    int copy(int from, int into) {
        cell(from, into);
        return come(into, cells[from]);
    }

    int swap(int one, int other) {
        cell(one, other);
        acts++;
        Answers a = cells[one];
        cells[one] = cells[other];
        cells[other] = a;
        return cells[one].equals(a) ? 0 : 1;
    }

    int choose(int one, int other, boolean isGreater, int into) {
        cell(one, other, into);
        int order = order(one, other);
        boolean isOne = order == 0 || order > 0 == isGreater;
        return come(into, isOne ? cells[one] : cells[other]);
    }

    int sort() {
        acts++;
        Answers[] was = cells.clone();
        java.util.Arrays.sort(cells, (a, b) -> Truth.order(a, b));
        int changed = 0;
        for (int i = 0; i < 8; i++) {
            changed += cells[i].equals(was[i]) ? 0 : 1;
        }
        return changed;
    }

    int kind(int cell) {
        cell(cell);
        return cells[cell].kind();
    }

    int eighths(int cell, int which) {
        cell(cell);
        within(which, 0, 1);
        return which == 0 ? cells[cell].first() : cells[cell].second();
    }

    boolean isExact(int cell) {
        cell(cell);
        return Truth.isExact(cells[cell]);
    }

    int upper(int cell) {
        cell(cell);
        return isExact(cell) ? (int) (Truth.bits(cells[cell]) >> 32) : NONE;
    }

    int lower(int cell) {
        cell(cell);
        return isExact(cell) ? (int) Truth.bits(cells[cell]) : NONE;
    }

    int sign(int cell) {
        cell(cell);
        return Truth.value(cells[cell]).signum();
    }

    private BigDecimal size(int cell) {
        return Truth.value(cells[cell]).abs();
    }

    int lead(int cell) {
        cell(cell);
        return Truth.isClear(cells[cell]) && sign(cell) != 0 ? Truth.lead(size(cell)) : NONE;
    }

    int head(int cell, int many) {
        cell(cell);
        within(many, 1, 31);
        if (!Truth.isClear(cells[cell])) {
            return NONE;
        }
        return sign(cell) == 0 ? 0 : (int) Truth.head(size(cell), many);
    }

    int tail(int cell) {
        cell(cell);
        if (!Truth.isClear(cells[cell])) {
            return NONE;
        }
        return sign(cell) == 0 ? 0 : (int) (Truth.head(size(cell), 45) % 16384);
    }

    String digits(int cell, int many) {
        cell(cell);
        within(many, 1, 45);
        if (!Truth.isClear(cells[cell])) {
            return "";
        }
        if (sign(cell) == 0) {
            return "0";
        }
        return (sign(cell) < 0 ? "-" : "") + Long.toBinaryString(Truth.head(size(cell), many)) + " " + lead(cell);
    }

    int floorOf(int cell, int scale) {
        cell(cell);
        within(scale, 0, 40);
        BigDecimal scaled = Truth.value(cells[cell]).multiply(Truth.two(scale));
        if (!Truth.isClear(cells[cell]) || scaled.abs().compareTo(Truth.two(30)) >= 0) {
            return NONE;
        }
        return Truth.floor(scaled).intValueExact();
    }

    int nearest(int cell) {
        cell(cell);
        BigDecimal eights = Truth.value(cells[cell]).multiply(BigDecimal.valueOf(8));
        BigInteger found = Truth.floor(eights.add(new BigDecimal("0.5")));
        return found.abs().compareTo(FAR) > 0 ? NONE : found.intValueExact();
    }

    int back(int cell) {
        cell(cell);
        if (cells[cell].kind() != 2) {
            return NONE;
        }
        return (int) Math.rint(8 * StrictMath.log1p(Truth.digits(cells[cell])));
    }

    int against(int cell, int over, int below) {
        cell(cell);
        within(over, -1000000000, 1000000000);
        within(below, 1, 32);
        if (!Truth.isClear(cells[cell])) {
            return -9;
        }
        return Truth.value(cells[cell]).multiply(BigDecimal.valueOf(below)).compareTo(BigDecimal.valueOf(over));
    }

    int order(int one, int other) {
        cell(one, other);
        return Truth.order(cells[one], cells[other]);
    }

    boolean isLevel(int one, int other) {
        cell(one, other);
        return Truth.isLevel(cells[one], cells[other]);
    }

    int same(int one, int other) {
        cell(one, other);
        return Truth.likeness(cells[one], cells[other]);
    }

    int productWithin(int one, int other, int third) {
        cell(one, other, third);
        if (cells[one].kind() != 1 || cells[other].kind() != 1 || cells[third].kind() != 1) {
            return -9;
        }
        double near = Truth.digits(cells[third]);
        return toldAs(Truth.isWithin(product(one, other), near, Truth.unit(near).multiply(new BigDecimal("2.2"))));
    }

    int inverseWithin(int one, int other) {
        cell(one, other);
        if (cells[one].kind() != 1 || cells[other].kind() != 1) {
            return -9;
        }
        return toldAs(Truth.isWithin(product(one, other), 1, Truth.two(-52).multiply(new BigDecimal("0.86"))));
    }

    private BigDecimal product(int one, int other) {
        return new BigDecimal(Truth.digits(cells[one])).multiply(new BigDecimal(Truth.digits(cells[other])));
    }

    int lessWithin(int one, int other) {
        cell(one, other);
        if (cells[one].kind() != 1 || cells[other].kind() != 2) {
            return -9;
        }
        double exp = Truth.digits(cells[one]);
        double expm1 = Truth.digits(cells[other]);
        BigDecimal unit = Truth.unit(exp);
        if (expm1 != 0) {
            unit = unit.max(Truth.unit(expm1));
        }
        return toldAs(Truth.isWithin(new BigDecimal(exp).subtract(BigDecimal.ONE), expm1, unit));
    }

    int wayWithin(int cell, int eighths) {
        cell(cell);
        within(eighths, -160, 168);
        int kind = cells[cell].kind();
        if (kind < 7) {
            return -9;
        }
        double way = eighths / 8.0;
        BigDecimal got = new BigDecimal(Truth.digits(cells[cell]));
        if (eighths == 0) {
            return toldAs(got.signum() == 0);
        }
        return toldAs(Truth.isWithin(got, way, Truth.unit(way).multiply(BigDecimal.valueOf(kind == 7 ? 1 : 2))));
    }

    int growth(int cell, int steps, boolean isAbove) {
        cell(cell);
        within(steps, 1, 64);
        return growthAgainst(cells[cell].kind() == 1 ? cells[cell].first() : 0, steps, isAbove, cell);
    }

    int growthAgainst(int eighths, int steps, boolean isAbove, int cell) {
        cell(cell);
        within(eighths, -160, 160);
        within(steps, 1, 64);
        if (cells[cell].kind() != 1 || !Truth.hasGrowth(eighths, steps)) {
            return -9;
        }
        return Truth.growth(eighths, steps, isAbove).compareTo(new BigDecimal(Truth.digits(cells[cell])));
    }

    int growthOrder(int eighths, int steps, int more, boolean isAbove) {
        within(eighths, -160, 160);
        within(steps, 1, 64);
        within(more, 1, 64);
        if (!Truth.hasGrowth(eighths, steps) || !Truth.hasGrowth(eighths, more)) {
            return -9;
        }
        return Truth.growth(eighths, steps, isAbove).compareTo(Truth.growth(eighths, more, isAbove));
    }

    int growthNear(int cell, int steps) {
        cell(cell);
        within(steps, 1, 64);
        int k = cells[cell].first();
        if (cells[cell].kind() != 1 || !Truth.hasGrowth(k, steps)) {
            return -9;
        }
        BigDecimal share = new BigDecimal(Truth.digits(cells[cell])).multiply(BigDecimal.valueOf(64 * steps - k * k));
        return toldAs(Truth.growth(k, steps, false).multiply(BigDecimal.valueOf(64 * steps)).compareTo(share) >= 0);
    }

    int first(int cell, int kind) {
        cell(cell);
        within(kind, 1, 3);
        for (int k = kind == 3 ? -7 : -160; k <= 160; k++) {
            if (Truth.order(Answers.of(kind, k), cells[cell]) >= 0) {
                return k;
            }
        }
        return 161;
    }

    int rank(int cell) {
        cell(cell);
        int below = 0;
        for (int i = 0; i < 8; i++) {
            below += order(i, cell) < 0 ? 1 : 0;
        }
        return below;
    }

    int find(int cell, boolean isLast) {
        cell(cell);
        int found = isLast ? 7 : 0;
        while (!isLevel(found, cell)) {
            found += isLast ? -1 : 1;
        }
        return found;
    }

    int end(boolean isGreatest) {
        for (int i = 0; i < 8; i++) {
            boolean isEnd = true;
            for (int j = 0; j < 8; j++) {
                isEnd &= isGreatest ? order(i, j) >= 0 : order(i, j) <= 0;
            }
            if (isEnd) {
                return i;
            }
        }
        throw new IllegalStateException();
    }

    int count(int kind) {
        within(kind, 0, 9);
        int counted = 0;
        for (Answers a : cells) {
            counted += a.kind() == kind ? 1 : 0;
        }
        return counted;
    }

    int house(int what) {
        within(what, 0, 2);
        return what == 0 ? acts : what == 1 ? refused : knocks;
    }

    int knock() {
        return ++knocks;
    }

    long digest() {
        long d = 7921;
        for (int i = 0; i < 8; i++) {
            int[] told = {kind(i), eighths(i, 0), eighths(i, 1), upper(i), lower(i), sign(i), lead(i), head(i, 31),
                tail(i), nearest(i), back(i), rank(i), find(i, false), find(i, true)};
            for (int v : told) {
                d = d * 31 + v;
            }
        }
        for (int i = 0; i < 8; i++) {
            for (int j = i + 1; j < 8; j++) {
                d = d * 31 + order(i, j);
                d = d * 31 + toldAs(isLevel(i, j));
                d = d * 31 + same(i, j);
            }
        }
        d = (d * 31 + end(true)) * 31 + end(false);
        for (int kind = 0; kind < 10; kind++) {
            d = d * 31 + count(kind);
        }
        d = ((d * 31 + acts) * 31 + refused) * 31 + knocks;
        return d * 31 + 1;
    }

    private static int toldAs(boolean isSo) {
        return isSo ? 1 : 0;
    }
}
