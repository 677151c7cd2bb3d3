/** Runs of calls by a fixed row of numbers, each answer held against that of Model. */
public final class ModelRunsTest {
    private static final int RUNS = 120;
    private static final int CALLS = 500;
    private static final int METHODS = 50;

    private long state;
    private final Steadygrowth x;
    private final Model m;

    private ModelRunsTest(long seed) {
        state = seed * 7919 + 17;
        x = new Steadygrowth();
        m = new Model();
    }

    public static void main(String[] args) {
        for (int run = 1; run <= RUNS; run++) {
            new ModelRunsTest(run).run(run);
        }
        Due.finish();
    }

    private int next(int bound) {
        state = state * 6364136223846793005L + 1442695040888963407L;
        return (int) ((state >>> 33) % bound);
    }

    private int between(int least, int most) {
        return least + next(most - least + 1);
    }

    private int cell() {
        return next(60) == 0 ? (next(2) == 0 ? 8 : -1) : next(8);
    }

    /** A number from least to most, at times just outside, often small. */
    private int number(int least, int most) {
        switch (next(30)) {
            case 0:
                return least - 1;
            case 1:
                return most + 1;
            case 2:
                return least;
            case 3:
                return most;
            default:
                return next(3) == 0 ? Math.max(least, Math.min(most, between(-9, 13))) : between(least, most);
        }
    }

    private void run(int run) {
        for (int i = 0; i < CALLS; i++) {
            int method = next(3) > 0 ? next(17) : next(METHODS);
            step(run, method);
        }
        for (int c = 0; c < 8; c++) {
            int cell = c;
            Due.is("run " + run + " upper " + c, x.upper(cell), m.upper(cell));
        }
        Due.is("run " + run + " digest", x.digest(), m.digest());
    }

    private void both(String what, Due.Call got, Due.Call want) {
        Due.is(what, Due.outcome(got), Due.outcome(want));
    }

    private void step(int run, int method) {
        int a = cell();
        int b = cell();
        int c = cell();
        int k = number(-160, 160);
        boolean flag = next(2) == 0;
        String what = "run " + run + " method " + method + " of " + a + " " + b + " " + c + " " + k + " " + flag;
        if (method < 17) {
            act(what, method, a, b, c, k, flag);
        } else if (method < 30) {
            ask(what, method, a, k);
        } else if (method < 38) {
            pair(what, method, a, b, c, k);
        } else {
            rest(what, method, a, k, flag);
        }
    }

    private void act(String what, int method, int a, int b, int c, int k, boolean flag) {
        switch (method) {
            case 0 -> both(what, () -> x.putEighths(a, k), () -> m.put(0, a, k));
            case 1 -> both(what, () -> x.putExp(a, k), () -> m.put(1, a, k));
            case 2 -> both(what, () -> x.putExpm1(a, k), () -> m.put(2, a, k));
            case 3 -> {
                int log = number(-7, 160);
                both(what + " log " + log, () -> x.putLog1p(a, log), () -> m.put(3, a, log));
            }
            case 4 -> both(what, () -> x.exp(a, b), () -> m.exp(a, b));
            case 5 -> both(what, () -> x.expm1(a, b), () -> m.expm1(a, b));
            case 6 -> both(what, () -> x.log1p(a, b), () -> m.log1p(a, b));
            case 7 -> both(what, () -> x.negate(a, b), () -> m.negate(a, b));
            case 8 -> both(what, () -> x.add(a, b, c), () -> m.add(a, b, c));
            case 9 -> both(what, () -> x.times(a, b, c), () -> m.times(a, b, c));
            case 10 -> both(what, () -> x.lessOne(a, b), () -> m.lessOne(a, b));
            case 11 -> both(what, () -> x.plusOne(a, b), () -> m.plusOne(a, b));
            case 12 -> both(what, () -> x.copy(a, b), () -> m.copy(a, b));
            case 13 -> both(what, () -> x.swap(a, b), () -> m.swap(a, b));
            case 14 -> both(what, () -> x.choose(a, b, flag, c), () -> m.choose(a, b, flag, c));
            case 15 -> {
                if (next(6) == 0) {
                    both(what, () -> x.sort(), () -> m.sort());
                }
            }
            default -> both(what, () -> x.knock(), () -> m.knock());
        }
    }

    private void ask(String what, int method, int a, int k) {
        int which = number(0, 1);
        int many = number(1, 31);
        int more = number(1, 45);
        int scale = number(0, 40);
        switch (method) {
            case 17 -> both(what, () -> x.kind(a), () -> m.kind(a));
            case 18 -> both(what + which, () -> x.eighths(a, which), () -> m.eighths(a, which));
            case 19 -> both(what, () -> x.isExact(a), () -> m.isExact(a));
            case 20 -> both(what, () -> x.upper(a), () -> m.upper(a));
            case 21 -> both(what, () -> x.lower(a), () -> m.lower(a));
            case 22 -> both(what, () -> x.sign(a), () -> m.sign(a));
            case 23 -> both(what, () -> x.lead(a), () -> m.lead(a));
            case 24 -> both(what + many, () -> x.head(a, many), () -> m.head(a, many));
            case 25 -> both(what, () -> x.tail(a), () -> m.tail(a));
            case 26 -> both(what + more, () -> x.digits(a, more), () -> m.digits(a, more));
            case 27 -> both(what + scale, () -> x.floorOf(a, scale), () -> m.floorOf(a, scale));
            case 28 -> both(what, () -> x.nearest(a), () -> m.nearest(a));
            default -> both(what, () -> x.back(a), () -> m.back(a));
        }
    }

    private void pair(String what, int method, int a, int b, int c, int k) {
        int over = next(4) > 0 ? number(-400, 400) : number(-1000000000, 1000000000);
        int below = number(1, 32);
        int way = number(-160, 168);
        switch (method) {
            case 30 -> both(what + over + "/" + below, () -> x.against(a, over, below), () -> m.against(a, over, below));
            case 31 -> both(what, () -> x.order(a, b), () -> m.order(a, b));
            case 32 -> both(what, () -> x.isLevel(a, b), () -> m.isLevel(a, b));
            case 33 -> both(what, () -> x.same(a, b), () -> m.same(a, b));
            case 34 -> both(what, () -> x.productWithin(a, b, c), () -> m.productWithin(a, b, c));
            case 35 -> both(what, () -> x.inverseWithin(a, b), () -> m.inverseWithin(a, b));
            case 36 -> both(what, () -> x.lessWithin(a, b), () -> m.lessWithin(a, b));
            default -> both(what + way, () -> x.wayWithin(a, way), () -> m.wayWithin(a, way));
        }
    }

    private void rest(String what, int method, int a, int k, boolean flag) {
        int n = number(1, 64);
        int more = number(1, 64);
        int kind = number(1, 3);
        switch (method) {
            case 38 -> both(what + n, () -> x.growth(a, n, flag), () -> m.growth(a, n, flag));
            case 39 -> both(what + n, () -> x.growthAgainst(k, n, flag, a), () -> m.growthAgainst(k, n, flag, a));
            case 40 -> both(what + n, () -> x.growthOrder(k, n, more, flag), () -> m.growthOrder(k, n, more, flag));
            case 41 -> both(what + n, () -> x.growthNear(a, n), () -> m.growthNear(a, n));
            case 42 -> both(what + kind, () -> x.first(a, kind), () -> m.first(a, kind));
            case 43 -> both(what, () -> x.rank(a), () -> m.rank(a));
            case 44 -> both(what, () -> x.find(a, flag), () -> m.find(a, flag));
            case 45 -> both(what, () -> x.end(flag), () -> m.end(flag));
            case 46 -> both(what + k, () -> x.count(k % 12), () -> m.count(k % 12));
            case 47 -> both(what + kind, () -> x.house(kind - 1), () -> m.house(kind - 1));
            case 48 -> both(what, () -> x.isSound(), () -> true);
            default -> both(what, () -> x.digest(), () -> m.digest());
        }
    }
}
