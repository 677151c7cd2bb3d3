/** Sections 3 to 6, sentence by sentence: what is LEVEL and what is just not, what lies near, where GROWTH ends. */
public final class NearnessTest {
    public static void main(String[] args) {
        section3BelowByOneEighth();
        section3PowersAreLevel();
        section3LessOnesAreLevel();
        section3LogsAreLevel();
        section3EighthsAreLevel();
        section3NoOthersAreLevel();
        section3LikenessOfWhatIsNotLevel();
        section3LikenessOfOnes();
        section3LikenessOfPowers();
        section3LikenessOfLessOnes();
        section3LikenessOfExactOnes();
        section3LikenessNotTold();
        section4Product();
        section4Inverse();
        section4Less();
        section4Ways();
        section5WhereThereIsGrowth();
        section5GrowthOfZeroIsOne();
        section5EndsOfGrowth();
        section5BelowRisesAboveFalls();
        section6NearestToALine();
        Due.finish();
    }

    private static Answers arg(int k) {
        return Answers.of(Answers.ARGUMENT, k);
    }

    private static Answers exp(int k) {
        return Answers.of(Answers.EXP, k);
    }

    private static Answers expm1(int k) {
        return Answers.of(Answers.EXPM1, k);
    }

    private static Answers log(int k) {
        return Answers.of(Answers.LOG1P, k);
    }

    private static Answers product(int first, int second) {
        return new Answers(Answers.PRODUCT, first, second);
    }

    private static Answers less(int k) {
        return Answers.of(Answers.LESS, k);
    }

    private static Answers more(int k) {
        return Answers.of(Answers.MORE, k);
    }

    private static Answers back(int k) {
        return Answers.of(Answers.BACK, k);
    }

    private static Answers there(int k) {
        return Answers.of(Answers.THERE, k);
    }

    private static Answers whole(int k) {
        return Answers.of(Answers.WHOLE, k);
    }

    // ---- section 3: BELOW and LEVEL

    private static void isBelow(Answers a, Answers b) {
        Steadygrowth x = Answers.with(a, b);
        Due.is(a + " is BELOW " + b, x.order(0, 1), -1);
        Due.is(b + " is above " + a, x.order(1, 0), 1);
        Due.is(a + " is LEVEL with " + b, x.isLevel(0, 1) || x.isLevel(1, 0), false);
        Due.is("same of " + a + " and " + b, x.same(0, 1), 0);
        Due.is("same of " + b + " and " + a, x.same(1, 0), 0);
    }

    private static void areLevel(Answers a, Answers b) {
        Steadygrowth x = Answers.with(a, b);
        Due.is("order of " + a + " and " + b, x.order(0, 1), 0);
        Due.is("order of " + b + " and " + a, x.order(1, 0), 0);
        Due.is(a + " is LEVEL with " + b, x.isLevel(0, 1) && x.isLevel(1, 0), true);
    }

    private static void section3BelowByOneEighth() {
        for (int kind = 0; kind < 10; kind++) {
            for (int k = -160; k < 160; k++) {
                if (Answers.exists(kind, k) && Answers.exists(kind, k + 1)) {
                    isBelow(Answers.of(kind, k), Answers.of(kind, k + 1));
                }
            }
        }
        isBelow(less(-8), less(6));
        isBelow(product(-160, 0), product(-160, 1));
        isBelow(product(0, 159), product(0, 160));
        isBelow(product(-1, 0), product(-1, 1));
        isBelow(product(-1, 1), product(0, 1));
    }

    /** "their sums are the same (EXP and MORE: FIRST; PRODUCT: FIRST + SECOND)". */
    private static void section3PowersAreLevel() {
        for (int sum : new int[] {-160, -159, -8, -1, 0, 1, 7, 159, 160}) {
            Answers product = sum < 0 ? product(-160, sum + 160) : product(sum - 160, 160);
            Answers other = product(Math.floorDiv(sum, 2), sum - Math.floorDiv(sum, 2));
            areLevel(exp(sum), product);
            areLevel(product, other);
            if (sum >= -8) {
                areLevel(exp(sum), more(sum));
                areLevel(more(sum), product);
            }
            if (sum > -160) {
                isBelow(exp(sum - 1), product);
                isBelow(exp(sum - 1), other);
            }
            if (sum < 160) {
                isBelow(product, exp(sum + 1));
                isBelow(other, exp(sum + 1));
            }
        }
        isBelow(exp(-9), more(-8));
        isBelow(more(-8), product(-8, 1));
    }

    private static void section3LessOnesAreLevel() {
        for (int k : new int[] {-160, -159, -9, -8, 6, 7, 159, 160}) {
            areLevel(expm1(k), less(k));
            if (k > -160) {
                isBelow(expm1(k - 1), less(k));
            }
            if (k < 160) {
                isBelow(less(k), expm1(k + 1));
            }
        }
    }

    private static void section3LogsAreLevel() {
        for (int k : new int[] {-7, -1, 0, 1, 160}) {
            areLevel(log(k), log(k));
        }
        isBelow(log(-7), log(-6));
        isBelow(log(159), log(160));
    }

    /** Each VALUE that is an EIGHTH in all the KINDS that have it, and the EIGHTHS beside it. */
    private static void section3EighthsAreLevel() {
        Answers[] ones = {arg(8), exp(0), product(0, 0), product(-1, 1), product(-160, 160), more(0), back(8), there(8),
            whole(0)};
        Answers[] zeros = {arg(0), expm1(0), log(0), back(0), there(0)};
        for (Answers[] all : new Answers[][] {ones, zeros}) {
            for (Answers a : all) {
                for (Answers b : all) {
                    areLevel(a, b);
                }
            }
        }
        for (Answers one : ones) {
            isBelow(arg(7), one);
            isBelow(one, arg(9));
            isBelow(zeros[1], one);
        }
        for (Answers zero : zeros) {
            isBelow(arg(-1), zero);
            isBelow(zero, arg(1));
        }
        areLevel(back(-8), arg(-8));
        areLevel(there(-7), back(-7));
        areLevel(whole(-7), there(1));
        areLevel(whole(-7), arg(1));
        areLevel(whole(152), arg(160));
        areLevel(whole(152), there(160));
        isBelow(back(160), whole(153));
        isBelow(arg(160), whole(160));
    }

    /** "That is so just if": the same FIRST alone is not enough, and what comes near is not LEVEL. */
    private static void section3NoOthersAreLevel() {
        isBelow(arg(5), exp(5));
        isBelow(arg(5), expm1(5));
        isBelow(log(5), arg(5));
        isBelow(expm1(5), exp(5));
        isBelow(less(6), more(6));
        isBelow(there(5), whole(5));
        isBelow(log(-1), expm1(-1));
        isBelow(log(1), expm1(1));
        isBelow(arg(-8), expm1(-160));
        isBelow(back(-8), less(-160));
        isBelow(arg(0), exp(-160));
        isBelow(less(160), exp(160));
        isBelow(expm1(-160), less(-159));
    }

    // ---- section 3: LIKENESS

    private static void likeness(Answers a, Answers b, int want) {
        Steadygrowth x = Answers.with(a, b);
        Due.is("same of " + a + " and " + b, x.same(0, 1), want);
        Due.is("same of " + b + " and " + a, x.same(1, 0), want);
    }

    private static void section3LikenessOfWhatIsNotLevel() {
        likeness(exp(8), more(9), 0);
        likeness(expm1(8), less(9), 0);
        likeness(arg(8), exp(1), 0);
        likeness(product(-1, 1), product(-1, 2), 0);
        likeness(there(1), back(2), 0);
        likeness(there(0), whole(0), 0);
    }

    /** ONES have LIKENESS 1, also where nothing is told of two that are not ONE. */
    private static void section3LikenessOfOnes() {
        for (int kind = 0; kind < 10; kind++) {
            for (int k : new int[] {-7, 8, 12, 160}) {
                if (Answers.exists(kind, k)) {
                    likeness(Answers.of(kind, k), Answers.of(kind, k), 1);
                }
            }
        }
        likeness(product(-1, 1), product(-1, 1), 1);
        likeness(product(3, 5), product(3, 5), 1);
        likeness(back(-3), back(-3), 1);
    }

    /** "0 if just one of them is MORE and its FIRST is -7, -3, 8, 12 or 87": both sides of each are 1. */
    private static void section3LikenessOfPowers() {
        for (int k : new int[] {-7, -3, 8, 12, 87}) {
            likeness(exp(k), more(k), 0);
            likeness(more(k), product(Math.min(0, k), Math.max(0, k)), 0);
            likeness(exp(k), product(Math.min(0, k), Math.max(0, k)), 1);
        }
        for (int k : new int[] {-8, -6, -5, -4, -2, -1, 0, 1, 3, 7, 9, 11, 13, 20, 61, 86, 88, 159, 160}) {
            likeness(exp(k), more(k), 1);
            likeness(more(k), product(Math.min(0, k), Math.max(0, k)), 1);
        }
        likeness(exp(-160), product(-160, 0), 1);
        likeness(exp(160), product(0, 160), 1);
        likeness(exp(0), product(0, 0), 1);
    }

    /** "0 if the FIRST is -20, 7, 8, 12, 61 or 87": both sides of each are 1. */
    private static void section3LikenessOfLessOnes() {
        for (int k : new int[] {-20, 7, 8, 12, 61, 87}) {
            likeness(expm1(k), less(k), 0);
        }
        for (int k : new int[] {-160, -21, -19, -12, -9, -8, 6, 9, 11, 13, 20, 60, 62, 86, 88, 159, 160}) {
            likeness(expm1(k), less(k), 1);
        }
    }

    private static void section3LikenessOfExactOnes() {
        Answers[] ones = {arg(8), exp(0), product(0, 0), more(0), back(8), whole(0)};
        Answers[] zeros = {arg(0), expm1(0), log(0), back(0), there(0)};
        for (Answers[] all : new Answers[][] {ones, zeros}) {
            for (Answers a : all) {
                for (Answers b : all) {
                    likeness(a, b, 1);
                }
            }
        }
        likeness(arg(-7), back(-7), 0);
        likeness(arg(-3), back(-3), 0);
        likeness(arg(-8), back(-8), 1);
        likeness(arg(-6), back(-6), 1);
        likeness(arg(-4), back(-4), 1);
        likeness(arg(-2), back(-2), 1);
        likeness(arg(160), back(160), 1);
    }

    private static void section3LikenessNotTold() {
        likeness(product(-1, 1), product(-2, 2), -9);
        likeness(product(-1, 1), product(0, 0), -9);
        likeness(product(-1, 1), exp(0), -9);
        likeness(product(-1, 1), arg(8), -9);
        likeness(product(1, 7), exp(8), -9);
        likeness(product(-1, 9), exp(8), -9);
        likeness(product(-1, 9), more(8), -9);
        likeness(product(-1, 9), product(0, 8), -9);
        likeness(there(1), arg(1), -9);
        likeness(there(-7), back(-7), -9);
        likeness(there(-3), back(-3), -9);
        likeness(there(8), whole(0), -9);
        likeness(there(9), whole(1), -9);
        likeness(whole(-7), arg(1), -9);
        likeness(whole(152), back(160), -9);
    }

    // ---- section 4

    private static void isProduct(int one, int other, int third, int want) {
        Steadygrowth x = Answers.with(exp(one), exp(other), exp(third));
        String what = "productWithin of " + one + ", " + other + " and " + third;
        Due.is(what, x.productWithin(0, 1, 2), want);
        Due.is(what + " turned", x.productWithin(1, 0, 2), want);
    }

    /** "just if the FIRST of the third is the sum of theirs": one EIGHTH beside it is not. */
    private static void section4Product() {
        int[][] pairs = {{-160, 160}, {-160, 0}, {0, 160}, {80, 80}, {-80, -80}, {0, 0}, {3, 5}, {-160, 1}};
        for (int[] both : pairs) {
            int sum = both[0] + both[1];
            isProduct(both[0], both[1], sum, 1);
            if (sum > -160) {
                isProduct(both[0], both[1], sum - 1, 0);
            }
            if (sum < 160) {
                isProduct(both[0], both[1], sum + 1, 0);
            }
        }
        isProduct(80, 81, 160, 0);
        isProduct(160, 160, 160, 0);
        isProduct(-160, -1, -160, 0);
        isProduct(-160, -160, -160, 0);
    }

    private static void isInverse(int one, int other, int want) {
        Steadygrowth x = Answers.with(exp(one), exp(other));
        Due.is("inverseWithin of " + one + " and " + other, x.inverseWithin(0, 1), want);
        Due.is("inverseWithin of " + other + " and " + one, x.inverseWithin(1, 0), want);
    }

    /** "just if their FIRST are together 0". */
    private static void section4Inverse() {
        isInverse(-160, 160, 1);
        isInverse(-160, 159, 0);
        isInverse(-159, 160, 0);
        isInverse(0, 0, 1);
        isInverse(0, 1, 0);
        isInverse(-1, 0, 0);
        isInverse(-1, 1, 1);
        isInverse(1, 1, 0);
        isInverse(160, 160, 0);
    }

    private static void isLess(int ofExp, int ofExpm1, int want) {
        Steadygrowth x = Answers.with(exp(ofExp), expm1(ofExpm1));
        Due.is("lessWithin of EXP " + ofExp + " and EXPM1 " + ofExpm1, x.lessWithin(0, 1), want);
    }

    /** "just if their FIRST are the same", and "that of the EXP, if the other one is 0". */
    private static void section4Less() {
        for (int k : new int[] {-160, -159, -8, -7, -1, 0, 1, 5, 6, 159, 160}) {
            isLess(k, k, 1);
            if (k > -160) {
                isLess(k, k - 1, 0);
                isLess(k - 1, k, 0);
            }
        }
        isLess(0, 0, 1);
        isLess(-1, 0, 0);
        isLess(1, 0, 0);
        isLess(0, 1, 0);
        isLess(0, -1, 0);
    }

    private static void isWay(Answers a, int way) {
        Steadygrowth x = Answers.with(a);
        Due.is("wayWithin of " + a + " to " + way, x.wayWithin(0, way), 1);
        Due.is("wayWithin of " + a + " to " + (way - 1), x.wayWithin(0, way - 1), 0);
        if (way < 168) {
            Due.is("wayWithin of " + a + " to " + (way + 1), x.wayWithin(0, way + 1), 0);
        }
    }

    /** "just if that EIGHTH is its VALUE", and "of 0: it is 0". */
    private static void section4Ways() {
        for (int k : new int[] {-8, -7, -3, -1, 0, 1, 159, 160}) {
            isWay(back(k), k);
            if (k >= -7) {
                isWay(there(k), k);
                isWay(whole(k), 8 + k);
            }
        }
        for (Answers none : new Answers[] {arg(0), exp(0), expm1(0), log(0), product(0, 0), less(8), more(0)}) {
            Due.is("wayWithin of another KIND: " + none, Answers.with(none).wayWithin(0, 0), -9);
        }
    }

    // ---- section 5

    private static void hasGrowth(int k, int steps, boolean isSo) {
        Steadygrowth x = Answers.with(exp(k), exp(0));
        String what = " of " + k + " in " + steps;
        for (boolean isAbove : new boolean[] {false, true}) {
            int standing = !isSo ? -9 : k == 0 ? 0 : isAbove ? 1 : -1;
            Due.is("growth" + what, x.growth(0, steps, isAbove), standing);
            Due.is("growthAgainst" + what, x.growthAgainst(k, steps, isAbove, 0), standing);
            Due.is("growthAgainst EXP 0" + what, x.growthAgainst(k, steps, isAbove, 1) != -9, isSo);
            Due.is("growthOrder, the first" + what, x.growthOrder(k, steps, 64, isAbove) != -9, isSo);
            Due.is("growthOrder, the second" + what, x.growthOrder(k, 64, steps, isAbove) != -9, isSo);
        }
        Due.is("growthNear" + what, x.growthNear(0, steps), isSo ? 1 : -9);
    }

    /** "if 8 n is above the SIZE of k": 8 n itself is the first one that is not. */
    private static void section5WhereThereIsGrowth() {
        for (int steps = 1; steps <= 20; steps++) {
            hasGrowth(8 * steps - 1, steps, true);
            hasGrowth(1 - 8 * steps, steps, true);
            hasGrowth(8 * steps, steps, false);
            hasGrowth(-8 * steps, steps, false);
            hasGrowth(0, steps, true);
        }
        for (int steps : new int[] {21, 22, 63, 64}) {
            hasGrowth(160, steps, true);
            hasGrowth(-160, steps, true);
        }
        hasGrowth(160, 1, false);
        hasGrowth(-160, 1, false);
    }

    /** "Both are 1 for k = 0. Nothing of them is rounded." */
    private static void section5GrowthOfZeroIsOne() {
        Steadygrowth x = Answers.with(exp(0), exp(-1), exp(1), product(0, 0));
        for (int steps : new int[] {1, 2, 63, 64}) {
            for (boolean isAbove : new boolean[] {false, true}) {
                Due.is("1 in " + steps, x.growth(0, steps, isAbove), 0);
                Due.is("1 to EXP 0 in " + steps, x.growthAgainst(0, steps, isAbove, 0), 0);
                Due.is("1 to EXP -1 in " + steps, x.growthAgainst(0, steps, isAbove, 1), 1);
                Due.is("1 to EXP 1 in " + steps, x.growthAgainst(0, steps, isAbove, 2), -1);
                Due.is("1 to what is no EXP", x.growthAgainst(0, steps, isAbove, 3), -9);
                Due.is("1 in all steps", x.growthOrder(0, steps, 65 - steps, isAbove), 0);
            }
            Due.is("growthNear of 0", x.growthNear(0, steps), 1);
        }
    }

    private static void growthLies(int k, int steps, boolean isAbove, int below) {
        Steadygrowth x = Answers.with(exp(below), exp(below + 1));
        String what = "GROWTH of " + k + " in " + steps + ", from above " + isAbove;
        Due.is(what + " to EXP " + below, x.growthAgainst(k, steps, isAbove, 0), 1);
        Due.is(what + " to EXP " + (below + 1), x.growthAgainst(k, steps, isAbove, 1), -1);
    }

    /** The EXP between which GROWTH lies in one step and in as few or as many as may be. */
    private static void section5EndsOfGrowth() {
        growthLies(7, 1, false, 5);
        growthLies(7, 1, true, 16);
        growthLies(-7, 1, false, -17);
        growthLies(-7, 1, true, -6);
        growthLies(1, 1, false, 0);
        growthLies(1, 1, true, 1);
        growthLies(160, 21, false, 112);
        growthLies(-160, 21, true, -113);
        growthLies(160, 64, false, 139);
        growthLies(-160, 64, true, -140);
        Steadygrowth x = Answers.with(exp(160), exp(-160));
        Due.is("21 to the 21st is above all", x.growthAgainst(160, 21, true, 0), 1);
        Due.is("1 over that is below all", x.growthAgainst(-160, 21, false, 1), -1);
        Due.is("159 in 20 steps is above all", x.growthAgainst(159, 20, true, 0), 1);
        Due.is("-159 in 20 steps is below all", x.growthAgainst(-159, 20, false, 1), -1);
    }

    private static void section5BelowRisesAboveFalls() {
        Steadygrowth x = new Steadygrowth();
        for (int k : new int[] {-160, -8, -1, 1, 8, 160}) {
            int least = Math.abs(k) / 8 + 1;
            for (int steps : new int[] {least, 63}) {
                String what = " of " + k + " in " + steps;
                Due.is("it rises from below" + what, x.growthOrder(k, steps, steps + 1, false), -1);
                Due.is("it falls from above" + what, x.growthOrder(k, steps, steps + 1, true), 1);
                Due.is("turned, from below" + what, x.growthOrder(k, steps + 1, steps, false), 1);
                Due.is("turned, from above" + what, x.growthOrder(k, steps + 1, steps, true), -1);
                Due.is("the same from below" + what, x.growthOrder(k, steps, steps, false), 0);
                Due.is("the same from above" + what, x.growthOrder(k, steps, steps, true), 0);
            }
        }
    }

    // ---- section 6

    private static void hasDigits(Answers a) {
        Steadygrowth x = Answers.with(a);
        java.math.BigDecimal size = Truth.value(a).abs();
        String sign = Truth.value(a).signum() < 0 ? "-" : "";
        String due = sign + Long.toBinaryString(Truth.head(size, 45)) + " " + Truth.lead(size);
        Due.is("all digits of " + a, x.digits(0, 45), due);
    }

    /** Those that come nearest of all to a line of which section 6 tells how near that may be. */
    private static void section6NearestToALine() {
        hasDigits(expm1(-18));
        hasDigits(expm1(-58));
        hasDigits(less(-124));
        hasDigits(exp(-73));
        isBelow(expm1(-160), expm1(-159));
        isBelow(less(-159), less(-158));
        Steadygrowth x = Answers.with(exp(148), expm1(148));
        Due.is("EXP 148 is nearest to a fraction", x.against(0, 433019951, 4), Truth.power(148)
                .multiply(java.math.BigDecimal.valueOf(4)).compareTo(java.math.BigDecimal.valueOf(433019951)));
        Due.is("EXPM1 148 is as near", x.against(1, 433019947, 4), x.against(0, 433019951, 4));
        int k = -76;
        int want = Truth.growth(k, 58, false).compareTo(Truth.power(-83));
        x.putExp(2, -83);
        x.putExp(3, 83);
        Due.is("GROWTH is nearest to EXP -83", x.growthAgainst(k, 58, false, 2), want);
        Due.is("GROWTH is as near to EXP 83", x.growthAgainst(-k, 58, true, 3), -want);
    }
}
