import java.math.BigDecimal;
import java.util.ArrayList;
import java.util.List;

/** Promises 31 to 38: how two stand. */
public final class PairsTest {
    private static final int NEIGHBOURS = 6;

    public static void main(String[] args) {
        promise31Against();
        promises32To34ByTheDocument();
        promises32And33OrderAndLevel();
        promise34Same();
        promise35ProductWithin();
        promise36InverseWithin();
        promise37LessWithin();
        promise38WayWithin();
        wrongArguments();
        Due.finish();
    }

    private static Answers product(int first, int second) {
        return new Answers(4, first, second);
    }

    private static void promise31Against() {
        Due.is("0 against 0 / 5", Answers.with(Answers.of(3, 0)).against(0, 0, 5), 0);
        Due.is("1 against 32 / 32", Answers.with(Answers.of(0, 8)).against(0, 32, 32), 0);
        Due.is("-1.5 against -3 / 2", Answers.with(Answers.of(0, -12)).against(0, -3, 2), 0);
        Due.is("-1.5 against -31 / 20", Answers.with(Answers.of(0, -12)).against(0, -31, 20), 1);
        Due.is("-1.5 against -29 / 20", Answers.with(Answers.of(0, -12)).against(0, -29, 20), -1);
        Due.is("e against 19 / 7", Answers.with(Answers.of(1, 8)).against(0, 19, 7), 1);
        Due.is("e against 87 / 32", Answers.with(Answers.of(1, 8)).against(0, 87, 32), -1);
        Due.is("LOG 1 / 8 against -52 / 25", Answers.with(Answers.of(3, -7)).against(0, -52, 25), 1);
        Due.is("LOG 1 / 8 against -2", Answers.with(Answers.of(3, -7)).against(0, -2, 1), -1);
        Due.is("EXP 160 against the most", Answers.with(Answers.of(1, 160)).against(0, 1000000000, 1), -1);
        Due.is("EXP 160 against 10^9 / 3", Answers.with(Answers.of(1, 160)).against(0, 1000000000, 3), 1);
        Due.is("EXP 160 against the least", Answers.with(Answers.of(1, 160)).against(0, -1000000000, 32), 1);
        Due.is("EXP -160 against 0", Answers.with(Answers.of(1, -160)).against(0, 0, 32), 1);
        Due.is("EXPM1 -160 against -1", Answers.with(Answers.of(2, -160)).against(0, -32, 32), 1);
        Due.is("THERE 8 against 1", Answers.with(Answers.of(8, 8)).against(0, 1, 1), -9);
        Due.is("THERE 0 against 0", Answers.with(Answers.of(8, 0)).against(0, 0, 1), 0);
        Due.is("PRODUCT -1 1 against 1", Answers.with(product(-1, 1)).against(0, 1, 1), -9);
        Due.is("PRODUCT 0 0 against 1", Answers.with(product(0, 0)).against(0, 1, 1), 0);
        Due.is("BACK -3 against 1", Answers.with(Answers.of(7, -3)).against(0, 1, 1), -9);
        Due.is("asking is no act", Answers.with(Answers.of(7, -3)).house(1), 0);
        for (Answers a : Answers.most()) {
            Steadygrowth x = Answers.with(a);
            for (int below = 1; below <= 32; below += 1 + below / 3) {
                fractionsNear(a, x, below);
            }
        }
    }

    /** The two fractions between which it lies, or the one that it is and those beside. */
    private static void fractionsNear(Answers a, Steadygrowth x, int below) {
        BigDecimal scaled = Truth.value(a).multiply(BigDecimal.valueOf(below));
        long floor = Truth.floor(scaled).longValueExact();
        for (long over = floor - 1; over <= floor + 1; over++) {
            if (Math.abs(over) <= 1000000000) {
                int want = Truth.isClear(a) ? scaled.compareTo(BigDecimal.valueOf(over)) : -9;
                Due.is(a + " against " + over + " / " + below, x.against(0, (int) over, below), want);
            }
        }
    }

    private static void pair(Answers a, Answers b) {
        Steadygrowth x = Answers.with(a, b);
        String what = a + " and " + b;
        Due.is("order of " + what, x.order(0, 1), Truth.order(a, b));
        Due.is("order turned of " + what, x.order(1, 0), -Truth.order(a, b));
        Due.is("isLevel of " + what, x.isLevel(0, 1), Truth.isLevel(a, b));
        Due.is("same of " + what, x.same(0, 1), Truth.likeness(a, b));
        Due.is("same turned of " + what, x.same(1, 0), Truth.likeness(b, a));
        digitsBearItOut(what, a, b);
    }

    /** What the document says of LEVEL and LIKENESS is so of StrictMath's own numbers. */
    private static void digitsBearItOut(String what, Answers a, Answers b) {
        double one = Truth.digits(a);
        double other = Truth.digits(b);
        boolean isNear = one == 0 || other == 0 ? one == other
                : one > 0 == other > 0 && Truth.places(one, other) <= 256;
        Due.is("256 PLACES of " + what, isNear, Truth.isLevel(a, b));
        if (Truth.likeness(a, b) >= 0) {
            Due.is("64 digits of " + what, one == other ? 1 : 0, Truth.likeness(a, b));
        }
    }

    /** Each ANSWER with all that lie near it, and a fixed row of pairs from all over. */
    private static void promises32To34ByTheDocument() {
        List<Answers> all = new ArrayList<>(Answers.most());
        all.sort((a, b) -> Truth.order(a, b));
        int many = all.size();
        for (int i = 0; i < many; i++) {
            for (int j = i; j < Math.min(many, i + NEIGHBOURS); j++) {
                pair(all.get(i), all.get(j));
            }
        }
        long at = 5;
        for (int i = 0; i < 20000; i++) {
            at = at * 6364136223846793005L + 1442695040888963407L;
            pair(all.get((int) ((at >>> 33) % many)), all.get((int) ((at >>> 13) % many & 0x7fffffff)));
        }
    }

    private static void promises32And33OrderAndLevel() {
        Steadygrowth x = Answers.with(Answers.of(1, 0), Answers.of(0, 8),
                Answers.of(9, 0), product(-5, 5), Answers.of(6, 0), Answers.of(1, 1));
        for (int i = 0; i < 5; i++) {
            for (int j = 0; j < 5; j++) {
                Due.is("order of ones " + i + " " + j, x.order(i, j), 0);
                Due.is("isLevel of ones " + i + " " + j, x.isLevel(i, j), true);
            }
            Due.is("order to EXP 1", x.order(i, 5), -1);
            Due.is("order from EXP 1", x.order(5, i), 1);
            Due.is("isLevel to EXP 1", x.isLevel(i, 5), false);
        }
        Steadygrowth low = Answers.with(Answers.of(2, -160), Answers.of(0, -8),
                Answers.of(2, -159), Answers.of(3, -1), Answers.of(8, -3));
        Due.is("EXPM1 -160 is above -1", low.order(0, 1), 1);
        Due.is("EXPM1 -160 is below EXPM1 -159", low.order(0, 2), -1);
        Due.is("LOG1P -1 is above EXPM1 -159", low.order(3, 2), 1);
        Due.is("THERE -3 is below LOG1P -1", low.order(4, 3), -1);
    }

    private static void promise34Same() {
        for (int k = -160; k <= 160; k++) {
            if (Answers.exists(6, k)) {
                boolean isOdd = k == -7 || k == -3 || k == 8 || k == 12 || k == 87;
                sameIs(Answers.of(1, k), Answers.of(6, k), isOdd ? 0 : 1);
                sameIs(Answers.of(6, k), product(Math.min(0, k), Math.max(0, k)), isOdd ? 0 : 1);
            }
            sameIs(Answers.of(1, k), product(Math.min(0, k), Math.max(0, k)), 1);
            if (Answers.exists(5, k)) {
                boolean isOdd = k == -20 || k == 7 || k == 8 || k == 12 || k == 61 || k == 87;
                sameIs(Answers.of(2, k), Answers.of(5, k), isOdd ? 0 : 1);
            }
            if (Answers.exists(7, k)) {
                sameIs(Answers.of(0, k), Answers.of(7, k), k == -7 || k == -3 ? 0 : 1);
            }
            if (Answers.exists(8, k)) {
                sameIs(Answers.of(0, k), Answers.of(8, k), k == 0 ? 1 : -9);
                sameIs(Answers.of(7, k), Answers.of(8, k), k == 0 ? 1 : -9);
                sameIs(Answers.of(0, Math.min(160, 8 + k)), Answers.of(9, k), k > 152 ? 0 : k == 0 ? 1 : -9);
            }
        }
        sameIs(Answers.of(6, 8), Answers.of(6, 8), 1);
        sameIs(Answers.of(2, 12), Answers.of(2, 12), 1);
        sameIs(Answers.of(7, -3), Answers.of(7, -3), 1);
        sameIs(product(-1, 1), product(-2, 2), -9);
        sameIs(product(-1, 1), product(-1, 1), 1);
        sameIs(product(3, 5), Answers.of(1, 8), -9);
        sameIs(product(3, 5), product(0, 8), -9);
        sameIs(Answers.of(1, 8), Answers.of(1, 9), 0);
        sameIs(Answers.of(1, 0), Answers.of(0, 8), 1);
        sameIs(Answers.of(3, 0), Answers.of(2, 0), 1);
        sameIs(Answers.of(1, 0), Answers.of(9, 0), 1);
        sameIs(Answers.of(9, -7), Answers.of(0, 1), -9);
        sameIs(Answers.of(7, -7), Answers.of(8, -7), -9);
    }

    private static void sameIs(Answers a, Answers b, int want) {
        Steadygrowth x = Answers.with(a, b);
        Due.is("same of " + a + " and " + b, x.same(0, 1), want);
        Due.is("same of " + b + " and " + a, x.same(1, 0), want);
    }

    private static void promise35ProductWithin() {
        int[][] threes = {{8, -8, 0}, {8, 8, 16}, {8, 8, 15}, {8, 8, 17}, {0, 0, 0}, {160, -160, 0}, {100, 60, 160},
            {160, 160, 160}, {-100, -60, -160}, {-100, -60, -159}, {-160, -160, -160}, {0, 0, 1}};
        for (int[] three : threes) {
            Steadygrowth x = Answers.with(Answers.of(1, three[0]), Answers.of(1, three[1]), Answers.of(1, three[2]));
            int want = three[0] + three[1] == three[2] ? 1 : 0;
            Due.is("productWithin " + three[0] + " " + three[1] + " " + three[2], x.productWithin(0, 1, 2), want);
            Due.is("productWithin turned", x.productWithin(1, 0, 2), want);
        }
        for (int kind = 0; kind < 10; kind++) {
            if (kind != 1) {
                Steadygrowth x = Answers.with(kind == 4 ? product(0, 8) : Answers.of(kind, 8),
                        Answers.of(1, 0), Answers.of(1, 8));
                Due.is("productWithin of kind " + kind, x.productWithin(0, 1, 2), -9);
                Due.is("productWithin of second kind " + kind, x.productWithin(1, 0, 2), -9);
                Due.is("productWithin of third kind " + kind, x.productWithin(1, 2, 0), -9);
                Due.is("inverseWithin of kind " + kind, x.inverseWithin(0, 1), -9);
                Due.is("inverseWithin of second kind " + kind, x.inverseWithin(1, 0), -9);
                Due.is("asking is no act", x.house(1), 0);
            }
        }
    }

    private static void promise36InverseWithin() {
        for (int k = -160; k <= 160; k++) {
            Steadygrowth x = Answers.with(Answers.of(1, k),
                    Answers.of(1, -k), Answers.of(1, k == 160 ? 0 : -k + (k == -160 ? -1 : 1)));
            Due.is("inverseWithin " + k, x.inverseWithin(0, 1), 1);
            Due.is("inverseWithin near " + k, x.inverseWithin(0, 2), 0);
            Due.is("inverseWithin itself " + k, x.inverseWithin(0, 0), k == 0 ? 1 : 0);
        }
    }

    private static void promise37LessWithin() {
        for (int k = -160; k <= 160; k++) {
            Steadygrowth x = Answers.with(Answers.of(1, k), Answers.of(2, k), Answers.of(2, k == 160 ? 159 : k + 1));
            Due.is("lessWithin " + k, x.lessWithin(0, 1), 1);
            Due.is("lessWithin near " + k, x.lessWithin(0, 2), 0);
            Due.is("lessWithin turned " + k, x.lessWithin(1, 0), -9);
            Due.is("lessWithin of EXP " + k, x.lessWithin(0, 0), -9);
            Due.is("lessWithin of EXPM1 " + k, x.lessWithin(1, 1), -9);
        }
        Due.is("lessWithin of LESS", Answers.with(Answers.of(1, 8), Answers.of(5, 8)).lessWithin(0, 1), -9);
    }

    private static void promise38WayWithin() {
        for (int k = -8; k <= 160; k++) {
            for (int kind = 0; kind < 10; kind++) {
                if (Answers.exists(kind, k)) {
                    Steadygrowth x = Answers.with(Answers.of(kind, k));
                    int way = kind == 9 ? k + 8 : k;
                    Due.is("wayWithin " + kind + " " + k, x.wayWithin(0, way), kind < 7 ? -9 : 1);
                    Due.is("wayWithin below " + k, x.wayWithin(0, way - 1), kind < 7 ? -9 : 0);
                    int above = way == 168 ? 0 : way + 1;
                    Due.is("wayWithin above " + k, x.wayWithin(0, above), kind < 7 ? -9 : 0);
                }
            }
        }
        Steadygrowth x = Answers.with(Answers.of(9, 160), Answers.of(1, 0));
        Due.is("wayWithin WHOLE 160", x.wayWithin(0, 168), 1);
        Due.is("wayWithin least", x.wayWithin(0, -160), 0);
        Due.argument("wayWithin 169", () -> x.wayWithin(0, 169));
        Due.argument("wayWithin -161", () -> x.wayWithin(0, -161));
        Due.argument("wayWithin 169 of an EXP", () -> x.wayWithin(1, 169));
        Due.index("wayWithin cell first", () -> x.wayWithin(8, 169));
    }

    private static void wrongArguments() {
        Steadygrowth x = Answers.with(Answers.of(9, 3));
        for (int wrong : new int[] {8, -1, Integer.MAX_VALUE, Integer.MIN_VALUE}) {
            Due.index("against", () -> x.against(wrong, 0, 0));
            Due.index("order", () -> x.order(wrong, 0));
            Due.index("order", () -> x.order(0, wrong));
            Due.index("isLevel", () -> x.isLevel(wrong, 0));
            Due.index("isLevel", () -> x.isLevel(0, wrong));
            Due.index("same", () -> x.same(wrong, 0));
            Due.index("same", () -> x.same(0, wrong));
            Due.index("productWithin", () -> x.productWithin(wrong, 0, 0));
            Due.index("productWithin", () -> x.productWithin(0, wrong, 0));
            Due.index("productWithin", () -> x.productWithin(0, 0, wrong));
            Due.index("inverseWithin", () -> x.inverseWithin(wrong, 0));
            Due.index("inverseWithin", () -> x.inverseWithin(0, wrong));
            Due.index("lessWithin", () -> x.lessWithin(wrong, 0));
            Due.index("lessWithin", () -> x.lessWithin(0, wrong));
            Due.index("wayWithin", () -> x.wayWithin(wrong, 0));
        }
        Due.argument("against over too much", () -> x.against(0, 1000000001, 1));
        Due.argument("against over too little", () -> x.against(0, -1000000001, 1));
        Due.argument("against over far too little", () -> x.against(1, Integer.MIN_VALUE, 1));
        Due.argument("against below 0", () -> x.against(1, 1, 0));
        Due.argument("against below 33", () -> x.against(0, 1, 33));
        Due.argument("against below -1", () -> x.against(1, 1, -1));
    }
}
