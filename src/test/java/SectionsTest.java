/** Sections 1, 2 and 7 and "What it is", sentence by sentence: the last one that is let, the first one that is not. */
public final class SectionsTest {
    private static final int NONE = -2147483648;

    public static void main(String[] args) {
        anObjectAnswers512Calls();
        section1EndsOfWhatIsPut();
        section1EndsOfWhatIsMade();
        section1EndsOfProduct();
        section1SecondIsZeroButOfProduct();
        section1One();
        section2Lead();
        section2FirstDigits();
        section2Exact();
        section2The64Digits();
        section2AllAreZeroForTheValueZero();
        section2Clear();
        section2None();
        section7TheEightCells();
        section7ActsTellOneOrZero();
        section7WhatTellsNotDoneIsCountedAlone();
        Due.finish();
    }

    private static Steadygrowth with(int kind, int first) {
        return Answers.with(Answers.of(kind, first));
    }

    private static Steadygrowth withProduct(int first, int second) {
        return Answers.with(new Answers(Answers.PRODUCT, first, second));
    }

    // ---- What it is

    /** "An object is used for at most 512 calls": the last one of them is answered as the first one. */
    private static void anObjectAnswers512Calls() {
        Steadygrowth knocked = new Steadygrowth();
        Steadygrowth put = new Steadygrowth();
        Steadygrowth refused = new Steadygrowth();
        Steadygrowth asked = new Steadygrowth();
        long first = asked.digest();
        for (int call = 1; call <= 511; call++) {
            knocked.knock();
            put.putExp(call % 8, call % 321 - 160);
            refused.times(0, 0, call % 8);
            if (call > 1) {
                asked.digest();
            }
        }
        Due.is("knock() as the 512th call", knocked.knock(), 512);
        Due.is("house(0) as the 512th call", put.house(0), 511);
        Due.is("house(1) as the 512th call", refused.house(1), 511);
        Due.is("digest() as the 512th call", asked.digest(), first);
    }

    // ---- section 1

    private static int put(Steadygrowth x, int kind, int k) {
        switch (kind) {
            case Answers.ARGUMENT:
                return x.putEighths(0, k);
            case Answers.EXP:
                return x.putExp(0, k);
            case Answers.EXPM1:
                return x.putExpm1(0, k);
            default:
                return x.putLog1p(0, k);
        }
    }

    /** "k of -160 to 160", for LOG1P "k of -7 to 160". */
    private static void section1EndsOfWhatIsPut() {
        for (int kind = 0; kind <= 3; kind++) {
            int asKind = kind;
            int least = kind == Answers.LOG1P ? -7 : -160;
            for (int k : new int[] {least, 160}) {
                Steadygrowth x = new Steadygrowth();
                Due.is("KIND " + kind + " is let with " + k, put(x, kind, k), 1);
                Told.has("KIND " + kind, x, 0, kind, k, 0);
            }
            for (int k : new int[] {least - 1, 161}) {
                Steadygrowth x = new Steadygrowth();
                Due.argument("KIND " + kind + " is not let with " + k, () -> put(x, asKind, k));
                Told.has("KIND " + kind + " that is not let", x, 0, 0, 0, 0);
            }
        }
    }

    /** Makes a KIND of what is put with k, in cell 0. */
    private static int make(Steadygrowth x, int kind, int k) {
        switch (kind) {
            case Answers.LOG1P:
                x.putEighths(1, k);
                return x.log1p(1, 0);
            case Answers.LESS:
                x.putExp(1, k);
                return x.lessOne(1, 0);
            case Answers.MORE:
                x.putExpm1(1, k);
                return x.plusOne(1, 0);
            case Answers.BACK:
                x.putExpm1(1, k);
                return x.log1p(1, 0);
            case Answers.THERE:
                x.putLog1p(1, k);
                return x.expm1(1, 0);
            default:
                x.putLog1p(1, k);
                return x.exp(1, 0);
        }
    }

    private static void isMade(int kind, int... ks) {
        for (int k : ks) {
            Steadygrowth x = new Steadygrowth();
            Due.is("KIND " + kind + " is made with " + k, make(x, kind, k), 1);
            Told.has("KIND " + kind + " made", x, 0, kind, k, 0);
        }
    }

    private static void isNotMade(int kind, int... ks) {
        for (int k : ks) {
            Steadygrowth x = new Steadygrowth();
            Due.is("KIND " + kind + " is not made with " + k, make(x, kind, k), -9);
            Told.has("KIND " + kind + " not made", x, 0, 0, 0, 0);
        }
    }

    private static void section1EndsOfWhatIsMade() {
        isMade(Answers.LOG1P, -7, 160);
        isNotMade(Answers.LOG1P, -8, -160);
        isMade(Answers.LESS, -160, -9, -8, 6, 7, 160);
        isNotMade(Answers.LESS, -7, -6, -1, 0, 1, 4, 5);
        isMade(Answers.MORE, -8, -7, 0, 160);
        isNotMade(Answers.MORE, -9, -10, -160);
        isMade(Answers.BACK, -8, -7, 0, 160);
        isNotMade(Answers.BACK, -9, -10, -160);
        isMade(Answers.THERE, -7, 0, 160);
        isMade(Answers.WHOLE, -7, 0, 160);
    }

    /** "FIRST is at most SECOND, each -160 to 160, and so is their sum." */
    private static void section1EndsOfProduct() {
        int[][] let = {{-160, 160}, {-160, 0}, {0, 160}, {-80, -80}, {80, 80}, {-1, 160}, {-160, 1}, {5, 5}, {0, 0}};
        for (int[] both : let) {
            for (boolean isTurned : new boolean[] {false, true}) {
                Steadygrowth x = Answers.with(Answers.of(1, both[0]), Answers.of(1, both[1]));
                String what = "PRODUCT of " + both[0] + " and " + both[1] + ", turned " + isTurned;
                Due.is(what, isTurned ? x.times(1, 0, 2) : x.times(0, 1, 2), 1);
                Told.has(what, x, 2, Answers.PRODUCT, both[0], both[1]);
            }
        }
        int[][] notLet = {{-160, -1}, {1, 160}, {-80, -81}, {80, 81}, {-160, -160}, {160, 160}};
        for (int[] both : notLet) {
            Steadygrowth x = Answers.with(Answers.of(1, both[0]), Answers.of(1, both[1]));
            Due.is("no PRODUCT of " + both[0] + " and " + both[1], x.times(0, 1, 2), -9);
            Told.has("no PRODUCT", x, 2, 0, 0, 0);
        }
    }

    /** "SECOND is 0 but of KIND 4": also where a PRODUCT was. */
    private static void section1SecondIsZeroButOfProduct() {
        for (int kind = 0; kind < 10; kind++) {
            if (kind != Answers.PRODUCT) {
                Steadygrowth x = withProduct(3, 5);
                Answers.of(kind, 9).putInto(x, 0);
                Due.is("SECOND where a PRODUCT was, KIND " + kind, x.eighths(0, 1), 0);
                Due.is("FIRST where a PRODUCT was, KIND " + kind, x.eighths(0, 0), 9);
            }
        }
        Due.is("SECOND of a PRODUCT", withProduct(-160, 160).eighths(0, 1), 160);
        Due.is("SECOND of a PRODUCT below 0", withProduct(-80, -80).eighths(0, 1), -80);
    }

    private static void isOne(Answers a, Answers b, boolean isOne) {
        Steadygrowth x = Answers.with(a, b);
        Due.is(a + " and " + b + " are ONE", x.swap(0, 1), isOne ? 0 : 1);
        Due.is(a + " and " + b + " are ONE by copy", x.copy(0, 1), isOne ? 0 : 1);
    }

    /** "if KIND, FIRST and SECOND are the same": each of them alone may differ. */
    private static void section1One() {
        for (int kind = 0; kind < 10; kind++) {
            Answers a = kind == 4 ? new Answers(4, 7, 9) : Answers.of(kind, 9);
            isOne(a, a, true);
            isOne(a, kind == 4 ? new Answers(4, 6, 9) : Answers.of(kind, 8), false);
            isOne(a, kind == 9 ? Answers.of(0, 9) : Answers.of(kind == 3 ? 5 : kind + 1, 9), false);
        }
        isOne(new Answers(4, -5, 6), new Answers(4, -5, 5), false);
        isOne(new Answers(4, -5, 5), new Answers(4, -4, 4), false);
        isOne(new Answers(4, -5, 0), Answers.of(1, -5), false);
        isOne(new Answers(4, 0, 0), Answers.of(1, 0), false);
        isOne(Answers.of(1, 0), Answers.of(0, 8), false);
    }

    // ---- section 2

    /** "2^p at most SIZE and SIZE below 2^(p + 1)". */
    private static void section2Lead() {
        int[][] arguments = {{1, -3}, {2, -2}, {3, -2}, {4, -1}, {7, -1}, {8, 0}, {15, 0}, {16, 1}, {31, 1}, {32, 2},
            {63, 2}, {64, 3}, {127, 3}, {128, 4}, {160, 4}};
        for (int[] told : arguments) {
            Due.is("LEAD of " + told[0] + " / 8", with(0, told[0]).lead(0), told[1]);
            Due.is("LEAD of " + -told[0] + " / 8", with(0, -told[0]).lead(0), told[1]);
        }
        int[][] others = {{1, -160, -29}, {1, -1, -1}, {1, 0, 0}, {1, 5, 0}, {1, 6, 1}, {1, 160, 28}, {2, -160, -1},
            {2, -6, -1}, {2, -5, -2}, {2, -1, -4}, {2, 1, -3}, {2, 5, -1}, {2, 6, 0}, {2, 160, 28}, {3, -7, 1},
            {3, -6, 0}, {3, -5, -1}, {3, -1, -3}, {3, 1, -4}, {3, 13, -1}, {3, 14, 0}, {3, 51, 0}, {3, 52, 1},
            {3, 160, 1}, {5, -160, -1}, {5, -8, -1}, {5, 6, 0}, {6, -8, -2}, {6, -1, -1}, {6, 0, 0}, {7, -8, 0}};
        for (int[] told : others) {
            Due.is("LEAD of KIND " + told[0] + ", " + told[1], with(told[0], told[1]).lead(0), told[2]);
        }
    }

    /** "the first of them is 1": also where SIZE is a power of two, or its digits are all 1 as far as they go. */
    private static void section2FirstDigits() {
        int[] ks = {-160, -159, -128, -127, -8, -7, -1, 1, 7, 8, 9, 15, 16, 127, 128, 160};
        for (int kind = 0; kind <= 3; kind++) {
            for (int k : ks) {
                if (Answers.exists(kind, k)) {
                    Steadygrowth x = with(kind, k);
                    String what = " of KIND " + kind + ", " + k;
                    Due.is("the first digit" + what, x.head(0, 1), 1);
                    Due.is("the first of 31" + what, x.head(0, 31) >>> 30, 1);
                    boolean isBelow = x.sign(0) < 0;
                    Due.is("the first as text" + what, x.digits(0, 1), (isBelow ? "-1 " : "1 ") + x.lead(0));
                }
            }
        }
        Due.is("31 digits that are all 1 but the last", with(2, -160).head(0, 31) >>> 3, (1 << 28) - 1);
    }

    private static void isExact(int kind, boolean isSo, int... ks) {
        for (int k : ks) {
            Due.is("KIND " + kind + ", " + k + " is EXACT", with(kind, k).isExact(0), isSo);
        }
    }

    private static void section2Exact() {
        isExact(Answers.ARGUMENT, true, -160, -7, -3, -1, 0, 1, 160);
        isExact(Answers.BACK, true, -8, -6, -5, -4, -2, -1, 0, 1, 3, 7, 160);
        isExact(Answers.BACK, false, -7, -3);
        for (int kind : new int[] {1, 2, 3, 6, 8, 9}) {
            isExact(kind, true, 0);
            isExact(kind, false, -7, -3, -1, 1, 8, 160);
        }
        isExact(Answers.LESS, false, -160, -8, 6, 160);
        Due.is("PRODUCT with 0 and 0 is EXACT", withProduct(0, 0).isExact(0), true);
        Due.is("PRODUCT with 0 and 1 is EXACT", withProduct(0, 1).isExact(0), false);
        Due.is("PRODUCT with -1 and 0 is EXACT", withProduct(-1, 0).isExact(0), false);
        Due.is("PRODUCT with -1 and 1 is EXACT", withProduct(-1, 1).isExact(0), false);
    }

    /** The sign, 11 digits, 52 digits: those of the ends, and of what has the most digits. */
    private static void section2The64Digits() {
        for (int k : new int[] {-160, -159, -127, -8, -7, -1, 1, 2, 7, 8, 9, 127, 128, 159, 160}) {
            long due = Double.doubleToRawLongBits(k / 8.0);
            Due.is("upper of ARGUMENT " + k, with(0, k).upper(0), (int) (due >> 32));
            Due.is("lower of ARGUMENT " + k, with(0, k).lower(0), (int) due);
        }
        Due.is("upper of BACK -8", with(7, -8).upper(0), 0xBFF00000);
        Due.is("upper of BACK 160", with(7, 160).upper(0), 0x40340000);
        for (int kind : new int[] {1, 6, 9}) {
            Due.is("upper of KIND " + kind + ", 0", with(kind, 0).upper(0), 0x3FF00000);
            Due.is("lower of KIND " + kind + ", 0", with(kind, 0).lower(0), 0);
        }
        Due.is("upper of PRODUCT 0 0", withProduct(0, 0).upper(0), 0x3FF00000);
    }

    /** "all 64 are 0 for the VALUE 0": the sign, too, after one below 0 as well. */
    private static void section2AllAreZeroForTheValueZero() {
        for (int kind : new int[] {0, 2, 3, 7, 8}) {
            Steadygrowth x = with(0, -160);
            Answers.of(kind, 0).putInto(x, 0);
            String what = " of KIND " + kind + ", 0";
            Due.is("isExact" + what, x.isExact(0), true);
            Due.is("upper" + what, x.upper(0), 0);
            Due.is("lower" + what, x.lower(0), 0);
            Due.is("sign" + what, x.sign(0), 0);
            Due.is("lead" + what, x.lead(0), NONE);
            Due.is("head" + what, x.head(0, 1), 0);
            Due.is("tail" + what, x.tail(0), 0);
            Due.is("digits" + what, x.digits(0, 1), "0");
            Due.is("floorOf" + what, x.floorOf(0, 40), 0);
        }
        Steadygrowth x = with(0, 0);
        x.negate(0, 0);
        Due.is("upper of 0 with the other sign", x.upper(0), 0);
    }

    private static void isClear(Answers a, boolean isSo) {
        Steadygrowth x = Answers.with(a);
        Due.is(a + " is CLEAR by head", x.head(0, 31) != NONE, isSo);
        Due.is(a + " is CLEAR by tail", x.tail(0) != NONE, isSo);
        Due.is(a + " is CLEAR by digits", !x.digits(0, 45).isEmpty(), isSo);
        Due.is(a + " is CLEAR by against", x.against(0, 0, 1) != -9, isSo);
        Due.is(a + " is CLEAR by lead", x.lead(0) != NONE, isSo && x.sign(0) != 0);
        boolean isSmall = Math.abs(a.first() + a.second()) < 100;
        Due.is(a + " is CLEAR by floorOf", !isSmall || x.floorOf(0, 0) != NONE, isSo || !isSmall);
    }

    private static void section2Clear() {
        for (int kind : new int[] {0, 1, 2, 3, 5, 6}) {
            for (int k : new int[] {-160, -8, -7, -3, -1, 0, 1, 6, 7, 160}) {
                if (Answers.exists(kind, k)) {
                    isClear(Answers.of(kind, k), true);
                }
            }
        }
        int[][] notClear = {{-1, 1}, {-2, 2}, {-160, 160}};
        for (int[] both : notClear) {
            isClear(new Answers(4, both[0], both[1]), false);
        }
        int[][] clear = {{0, 0}, {-1, 2}, {-2, 1}, {0, 1}, {-1, 0}, {-159, 160}, {-160, 159}, {80, 80}, {-80, -80}};
        for (int[] both : clear) {
            isClear(new Answers(4, both[0], both[1]), true);
        }
        for (int k : new int[] {-8, -7, -6, -4, -3, -2, 0, 160}) {
            isClear(Answers.of(Answers.BACK, k), k != -7 && k != -3);
        }
        for (int k : new int[] {-7, -1, 0, 1, 160}) {
            isClear(Answers.of(Answers.THERE, k), k == 0);
            isClear(Answers.of(Answers.WHOLE, k), k == 0);
        }
    }

    /** "-2147483648 is told where a number is asked for that is not told". */
    private static void section2None() {
        Due.is("upper of one that is not EXACT", with(1, 1).upper(0), NONE);
        Due.is("lower of one that is not EXACT", with(1, 1).lower(0), NONE);
        Due.is("lead of the VALUE 0", with(0, 0).lead(0), NONE);
        Due.is("lead of one that is not CLEAR", with(8, 1).lead(0), NONE);
        Due.is("head of one that is not CLEAR", with(8, 1).head(0, 1), NONE);
        Due.is("tail of one that is not CLEAR", with(9, 1).tail(0), NONE);
        Due.is("floorOf of one that is not CLEAR", with(9, 1).floorOf(0, 0), NONE);
        Due.is("floorOf of 2^30", with(0, 8).floorOf(0, 30), NONE);
        Due.is("nearest of one beyond 1000000000", with(1, 150).nearest(0), NONE);
        Due.is("back of an ARGUMENT", with(0, 1).back(0), NONE);
    }

    // ---- section 7

    /** "eight cells, 0 to 7; at first each has the ARGUMENT 0"; what comes to one leaves the others. */
    private static void section7TheEightCells() {
        for (int cell = 0; cell < 8; cell++) {
            Steadygrowth x = new Steadygrowth();
            Due.is("what comes to " + cell, x.putExp(cell, 160), 1);
            for (int other = 0; other < 8; other++) {
                boolean isIt = other == cell;
                Told.has(other + " when it came to " + cell, x, other, isIt ? 1 : 0, isIt ? 160 : 0, 0);
            }
        }
        Steadygrowth x = new Steadygrowth();
        String was = Told.all(x);
        Due.index("cell -1", () -> x.putExp(-1, 0));
        Due.index("cell 8", () -> x.putExp(8, 0));
        Due.is("after those", Told.all(x), was);
    }

    private static void section7ActsTellOneOrZero() {
        Steadygrowth x = new Steadygrowth();
        Due.is("an ARGUMENT 0 to the first one", x.putEighths(0, 0), 0);
        Due.is("an EXP 0 to an ARGUMENT 0", x.putExp(0, 0), 1);
        Due.is("an ARGUMENT 8 to an EXP 0, which is LEVEL", x.putEighths(0, 8), 1);
        Due.is("exp of it", x.exp(0, 1), 1);
        Due.is("exp of it again", x.exp(0, 1), 0);
        Due.is("the way back", x.putEighths(0, 0), 1);
    }

    private interface Act {
        int tell(Steadygrowth x, int into);
    }

    private static void isCountedAlone(String what, Answers a, Answers b, Act act) {
        for (int into = 0; into < 8; into++) {
            Steadygrowth x = Answers.with(a, b);
            String cells = Told.cells(x);
            int acts = x.house(0);
            String all = what + " of " + a + " and " + b + " into " + into;
            Due.is(all, act.tell(x, into), -9);
            Due.is(all + ": the cells", Told.cells(x), cells);
            Due.is(all + ": done", x.house(0), acts);
            Due.is(all + ": told -9", x.house(1), 1);
            Due.is(all + ": knocks", x.house(2), 0);
        }
    }

    /** "an act that tells -9 changes nothing, but that it is counted". */
    private static void section7WhatTellsNotDoneIsCountedAlone() {
        Answers low = Answers.of(Answers.ARGUMENT, -160);
        Answers high = Answers.of(Answers.ARGUMENT, 160);
        Answers exp = Answers.of(Answers.EXP, 5);
        Answers far = Answers.of(Answers.EXP, 156);
        Answers expm1 = Answers.of(Answers.EXPM1, -9);
        isCountedAlone("exp", exp, low, (x, into) -> x.exp(0, into));
        isCountedAlone("expm1", exp, low, (x, into) -> x.expm1(0, into));
        isCountedAlone("log1p of a KIND", exp, low, (x, into) -> x.log1p(0, into));
        isCountedAlone("log1p of an ARGUMENT", low, exp, (x, into) -> x.log1p(0, into));
        isCountedAlone("log1p of an EXPM1", expm1, exp, (x, into) -> x.log1p(0, into));
        isCountedAlone("negate", expm1, exp, (x, into) -> x.negate(0, into));
        isCountedAlone("add of a KIND", expm1, low, (x, into) -> x.add(0, 1, into));
        isCountedAlone("add to a KIND", low, expm1, (x, into) -> x.add(0, 1, into));
        isCountedAlone("add below", low, Answers.of(0, -1), (x, into) -> x.add(0, 1, into));
        isCountedAlone("add above", high, Answers.of(0, 1), (x, into) -> x.add(0, 1, into));
        isCountedAlone("times of a KIND", low, exp, (x, into) -> x.times(0, 1, into));
        isCountedAlone("times to a KIND", exp, low, (x, into) -> x.times(0, 1, into));
        isCountedAlone("times above", exp, far, (x, into) -> x.times(0, 1, into));
        isCountedAlone("lessOne of a KIND", expm1, exp, (x, into) -> x.lessOne(0, into));
        isCountedAlone("lessOne of a FIRST", exp, far, (x, into) -> x.lessOne(0, into));
        isCountedAlone("plusOne of a KIND", exp, expm1, (x, into) -> x.plusOne(0, into));
        isCountedAlone("plusOne of a FIRST", expm1, exp, (x, into) -> x.plusOne(0, into));
    }
}
