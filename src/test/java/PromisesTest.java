import java.math.BigInteger;

/** Promises 1 to 51, each by the boundary cases that its own sentences name; the arguments' bounds: CallBoundsTest. */
public final class PromisesTest {
    private static final int NONE = -2147483648;

    public static void main(String[] args) {
        promise1();
        promises2To5();
        promises6And7();
        promise8();
        promise9();
        promise10();
        promise11();
        promises12And13();
        promise14();
        promise15();
        promise16();
        promise17();
        promises18And19();
        promises20To22();
        promise23();
        promise24();
        promise25();
        promise26();
        promise27();
        promise28();
        promise28Beyond();
        promise29();
        promise30();
        promise31();
        promises32And33();
        promise34();
        promise35();
        promise36();
        promise37();
        promise38();
        promises39And40();
        promise41();
        promise42();
        promise43();
        promise43None();
        promise44();
        promise45();
        promise46();
        promise47();
        promise48();
        promise49();
        promise50();
        promise51();
        Due.finish();
    }

    private static Steadygrowth with(int kind, int first) {
        return Answers.with(Answers.of(kind, first));
    }

    private static Steadygrowth withProduct(int first, int second) {
        return Answers.with(new Answers(Answers.PRODUCT, first, second));
    }

    /** One of each KIND. */
    private static Answers ofKind(int kind) {
        return kind == Answers.PRODUCT ? new Answers(Answers.PRODUCT, 4, 5) : Answers.of(kind, 9);
    }

    /** Arguments in all eight cells. */
    private static Steadygrowth withArguments(int... ks) {
        Steadygrowth x = new Steadygrowth();
        for (int cell = 0; cell < 8; cell++) {
            x.putEighths(cell, ks[cell]);
        }
        return x;
    }

    // ---- acts

    private static void promise1() {
        Steadygrowth x = new Steadygrowth();
        for (int cell = 0; cell < 8; cell++) {
            Told.has("a new cell " + cell, x, cell, 0, 0, 0);
            Due.is("a new cell is EXACT", x.isExact(cell), true);
            Due.is("and is found with all others", x.find(cell, false) == 0 && x.find(cell, true) == 7, true);
        }
        Due.is("arguments in a new one", x.count(0), 8);
        Due.is("what a new one did", x.house(0) + x.house(1) + x.house(2), 0);
    }

    private static void promises2To5() {
        Steadygrowth x = new Steadygrowth();
        Due.is("putEighths of what is there", x.putEighths(7, 0), 0);
        Due.is("putEighths of the least", x.putEighths(7, -160), 1);
        Due.is("putEighths of the most", x.putEighths(7, 160), 1);
        Due.is("putExp", x.putExp(7, 160), 1);
        Due.is("putExp of what is there", x.putExp(7, 160), 0);
        Due.is("putExp of the least", x.putExp(7, -160), 1);
        Due.is("putExpm1", x.putExpm1(7, -160), 1);
        Due.is("putExpm1 of what is there", x.putExpm1(7, -160), 0);
        Due.is("putExpm1 of the most", x.putExpm1(7, 160), 1);
        Due.is("putLog1p", x.putLog1p(7, 160), 1);
        Due.is("putLog1p of what is there", x.putLog1p(7, 160), 0);
        Due.is("putLog1p of the least", x.putLog1p(7, -7), 1);
        Due.argument("putLog1p below the least", () -> x.putLog1p(7, -8));
        Due.is("acts done", x.house(0), 12);
    }

    private static void promises6And7() {
        for (int k : new int[] {-160, -8, -7, 0, 160}) {
            Steadygrowth x = with(Answers.ARGUMENT, k);
            Due.is("exp of " + k, x.exp(0, 7), 1);
            Told.has("exp of " + k, x, 7, Answers.EXP, k, 0);
            Due.is("expm1 of " + k, x.expm1(0, 7), 1);
            Told.has("expm1 of " + k, x, 7, Answers.EXPM1, k, 0);
            if (k >= -7) {
                x.putLog1p(0, k);
                Due.is("exp of LOG1P " + k, x.exp(0, 7), 1);
                Told.has("exp of LOG1P " + k, x, 7, Answers.WHOLE, k, 0);
                Due.is("expm1 of LOG1P " + k, x.expm1(0, 0), 1);
                Told.has("expm1 of LOG1P " + k, x, 0, Answers.THERE, k, 0);
            }
        }
        for (int kind = 0; kind < 10; kind++) {
            Steadygrowth x = Answers.with(ofKind(kind));
            boolean isLet = kind == Answers.ARGUMENT || kind == Answers.LOG1P;
            Due.is("exp of KIND " + kind, x.exp(0, 5), isLet ? 1 : -9);
            Due.is("expm1 of KIND " + kind, x.expm1(0, 5), isLet ? 1 : -9);
        }
    }

    private static void promise8() {
        Due.is("log1p of ARGUMENT -7", with(Answers.ARGUMENT, -7).log1p(0, 0), 1);
        Due.is("log1p of ARGUMENT -8", with(Answers.ARGUMENT, -8).log1p(0, 0), -9);
        Due.is("log1p of ARGUMENT 160", with(Answers.ARGUMENT, 160).log1p(0, 0), 1);
        Due.is("log1p of EXPM1 -8", with(Answers.EXPM1, -8).log1p(0, 0), 1);
        Due.is("log1p of EXPM1 -9", with(Answers.EXPM1, -9).log1p(0, 0), -9);
        Due.is("log1p of EXPM1 160", with(Answers.EXPM1, 160).log1p(0, 0), 1);
        for (int kind = 0; kind < 10; kind++) {
            boolean isLet = kind == Answers.ARGUMENT || kind == Answers.EXPM1;
            Due.is("log1p of KIND " + kind, Answers.with(ofKind(kind)).log1p(0, 5), isLet ? 1 : -9);
        }
        Steadygrowth x = with(Answers.EXPM1, -8);
        x.log1p(0, 0);
        Told.has("log1p into the cell taken", x, 0, Answers.BACK, -8, 0);
    }

    private static void promise9() {
        for (int k : new int[] {-160, -1, 0, 1, 160}) {
            Steadygrowth x = with(Answers.ARGUMENT, k);
            Due.is("negate " + k + " into another", x.negate(0, 7), k == 0 ? 0 : 1);
            Told.has("negate " + k + " into another", x, 7, Answers.ARGUMENT, -k, 0);
            Told.has("negate " + k + ", the one taken", x, 0, Answers.ARGUMENT, k, 0);
            Due.is("negate " + k + " into itself", x.negate(0, 0), k == 0 ? 0 : 1);
            Told.has("negate " + k + " into itself", x, 0, Answers.ARGUMENT, -k, 0);
        }
        for (int kind = 1; kind < 10; kind++) {
            Due.is("negate KIND " + kind, Answers.with(ofKind(kind)).negate(0, 1), -9);
        }
    }

    private static void promise10() {
        int[][] sums = {{159, 1, 1}, {160, 0, 1}, {160, 1, -9}, {80, 80, 1}, {80, 81, -9}, {-159, -1, 1},
            {-160, 0, 1}, {-160, -1, -9}, {-80, -80, 1}, {-80, -81, -9}, {160, -160, 1}, {160, 160, -9},
            {-160, -160, -9}};
        for (int[] sum : sums) {
            Steadygrowth x = Answers.with(Answers.of(0, sum[0]), Answers.of(0, sum[1]), Answers.of(1, 3));
            String what = "add " + sum[0] + " and " + sum[1];
            Due.is(what + " turned", x.add(1, 0, 3) == -9, sum[2] == -9);
            Due.is(what, x.add(0, 1, 2), sum[2]);
            boolean isLet = sum[2] == 1;
            Told.has(what, x, 2, isLet ? 0 : 1, isLet ? sum[0] + sum[1] : 3, 0);
        }
        for (int kind = 1; kind < 10; kind++) {
            Due.is("add from KIND " + kind, Answers.with(ofKind(kind)).add(0, 1, 2), -9);
            Due.is("add to KIND " + kind, Answers.with(ofKind(kind)).add(1, 0, 2), -9);
        }
        Steadygrowth x = with(Answers.ARGUMENT, 80);
        Due.is("add of one cell to itself", x.add(0, 0, 0), 1);
        Told.has("add of one cell to itself", x, 0, 0, 160, 0);
        Due.is("add of one cell to itself beyond", x.add(0, 0, 0), -9);
        Told.has("add of one cell to itself beyond", x, 0, 0, 160, 0);
    }

    private static void promise11() {
        for (int sum : new int[] {-161, -160, 160, 161}) {
            int one = sum / 2;
            Steadygrowth x = Answers.with(Answers.of(1, one), Answers.of(1, sum - one));
            boolean isLet = Math.abs(sum) <= 160;
            Due.is("times with the sum " + sum, x.times(1, 0, 7), isLet ? 1 : -9);
            Due.is("SECOND of it", x.eighths(7, 1), isLet ? Math.max(one, sum - one) : 0);
        }
        for (int kind = 0; kind < 10; kind++) {
            Steadygrowth x = Answers.with(ofKind(kind), Answers.of(1, 0));
            Due.is("times from KIND " + kind, x.times(0, 1, 2), kind == 1 ? 1 : -9);
            Due.is("times to KIND " + kind, x.times(1, 0, 3), kind == 1 ? 1 : -9);
        }
        Steadygrowth x = with(Answers.EXP, -80);
        Due.is("times of one cell with itself", x.times(0, 0, 0), 1);
        Told.has("times of one cell with itself", x, 0, Answers.PRODUCT, -80, -80);
        Due.is("a PRODUCT is no EXP", x.times(0, 0, 0), -9);
    }

    private static void promises12And13() {
        for (int k : new int[] {-160, -9, -8, -7, -6, 0, 4, 5, 6, 7, 160}) {
            boolean isFar = k < -7 || k > 5;
            Due.is("lessOne of EXP " + k, with(Answers.EXP, k).lessOne(0, 0), isFar ? 1 : -9);
        }
        for (int k : new int[] {-160, -10, -9, -8, -7, 0, 160}) {
            Due.is("plusOne of EXPM1 " + k, with(Answers.EXPM1, k).plusOne(0, 0), k < -8 ? -9 : 1);
        }
        for (int kind = 0; kind < 10; kind++) {
            Due.is("lessOne of KIND " + kind, Answers.with(ofKind(kind)).lessOne(0, 1), kind == 1 ? 1 : -9);
            Due.is("plusOne of KIND " + kind, Answers.with(ofKind(kind)).plusOne(0, 1), kind == 2 ? 1 : -9);
        }
    }

    private static void promise14() {
        Steadygrowth x = Answers.with(new Answers(4, -160, 160), new Answers(4, -159, 159), Answers.of(1, 0));
        Due.is("copy to itself", x.copy(0, 0), 0);
        Due.is("copy to a LEVEL one that is not ONE", x.copy(0, 1), 1);
        Told.has("copy to a LEVEL one", x, 1, Answers.PRODUCT, -160, 160);
        Due.is("copy to one that is ONE", x.copy(0, 1), 0);
        Due.is("copy to the last cell", x.copy(2, 7), 1);
        Told.has("the cell taken keeps it", x, 2, Answers.EXP, 0, 0);
        x.putExp(2, 1);
        Told.has("the other one keeps it, too", x, 7, Answers.EXP, 0, 0);
        x.putExpm1(3, -160);
        Due.is("copy of the least EXPM1", x.copy(3, 7), 1);
        Due.is("what is told of it comes along: sign", x.sign(7), -1);
        Due.is("digits", x.digits(7, 45), x.digits(3, 45));
        Due.is("upper", x.upper(7), NONE);
        Due.is("order", x.order(3, 7), 0);
    }

    private static void promise15() {
        Steadygrowth x = Answers.with(Answers.of(1, 0), Answers.of(6, 0), Answers.of(1, 0));
        Due.is("swap of a cell with itself", x.swap(1, 1), 0);
        Told.has("swap of a cell with itself", x, 1, Answers.MORE, 0, 0);
        Due.is("swap of what is ONE", x.swap(0, 2), 0);
        Due.is("swap of LEVEL ones that are not ONE", x.swap(0, 1), 1);
        Told.has("swap, the first", x, 0, Answers.MORE, 0, 0);
        Told.has("swap, the other", x, 1, Answers.EXP, 0, 0);
        Due.is("swap of the first and the last cell", x.swap(0, 7), 1);
        Told.has("swap, the last", x, 7, Answers.MORE, 0, 0);
        x.putExp(7, 9);
        Told.has("what came to the first stays there", x, 0, Answers.EXPM1, 0, 0);
    }

    private static void promise16() {
        for (boolean isGreater : new boolean[] {false, true}) {
            Steadygrowth x = Answers.with(Answers.of(1, 0), Answers.of(9, 0), Answers.of(2, -160), Answers.of(2, -159));
            String what = ", the greater one " + isGreater;
            Due.is("choose of LEVEL ones" + what, x.choose(0, 1, isGreater, 5), 1);
            Told.has("the first one told" + what, x, 5, Answers.EXP, 0, 0);
            Due.is("choose turned" + what, x.choose(1, 0, isGreater, 5), 1);
            Told.has("the first one told, turned" + what, x, 5, Answers.WHOLE, 0, 0);
            Due.is("choose of one with itself" + what, x.choose(1, 1, isGreater, 5), 0);
            Due.is("choose of neighbours" + what, x.choose(2, 3, isGreater, 5), 1);
            Told.has("choose of neighbours" + what, x, 5, Answers.EXPM1, isGreater ? -159 : -160, 0);
            Due.is("choose of neighbours turned" + what, x.choose(3, 2, isGreater, 5), 0);
            Due.is("choose into the first one" + what, x.choose(2, 3, isGreater, 2), isGreater ? 1 : 0);
            Told.has("choose into the first one" + what, x, 2, Answers.EXPM1, isGreater ? -159 : -160, 0);
        }
    }

    private static void promise17() {
        Due.is("sort of what is ONE", new Steadygrowth().sort(), 0);
        Steadygrowth x = withArguments(7, 6, 5, 4, 3, 2, 1, 0);
        Due.is("sort of what stands from the end", x.sort(), 8);
        for (int cell = 0; cell < 8; cell++) {
            Told.has("sorted " + cell, x, cell, 0, cell, 0);
        }
        Due.is("sort of what is sorted", x.sort(), 0);
        Steadygrowth last = withArguments(1, 2, 3, 4, 5, 6, 7, 0);
        Due.is("sort with the least in the last cell", last.sort(), 8);
        Steadygrowth two = withArguments(0, 1, 2, 3, 4, 5, 7, 6);
        Due.is("sort of the last two cells", two.sort(), 2);
        Steadygrowth first = withArguments(1, 0, 2, 3, 4, 5, 6, 7);
        Due.is("sort of the first two cells", first.sort(), 2);
        levelOnesStayInTheirOrder();
    }

    private static void levelOnesStayInTheirOrder() {
        Steadygrowth x = new Steadygrowth();
        x.putExpm1(6, 0);
        x.plusOne(6, 0);
        x.putExp(1, 0);
        x.putEighths(2, 8);
        x.putEighths(3, 9);
        x.putExp(4, 0);
        x.putExpm1(5, -1);
        x.putEighths(6, 8);
        x.putEighths(7, 0);
        Due.is("sort of LEVEL ones, of which one stays", x.sort(), 7);
        int[][] due = {{2, -1}, {0, 0}, {6, 0}, {1, 0}, {0, 8}, {1, 0}, {0, 8}, {0, 9}};
        for (int cell = 0; cell < 8; cell++) {
            Told.has("LEVEL ones sorted " + cell, x, cell, due[cell][0], due[cell][1], 0);
        }
        Due.is("sort of what is not ONE with what it had", x.sort(), 0);
        Due.is("sort is always an act", x.house(0), 11);
    }

    // ---- what an ANSWER is

    private static void promises18And19() {
        for (int kind = 0; kind < 10; kind++) {
            Steadygrowth x = new Steadygrowth();
            ofKind(kind).putInto(x, 5);
            x.swap(5, 7);
            Due.is("kind", x.kind(7), kind);
            Due.is("eighths 0", x.eighths(7, 0), ofKind(kind).first());
            Due.is("eighths 1", x.eighths(7, 1), ofKind(kind).second());
        }
        Due.is("eighths 0 at its least", withProduct(-160, 160).eighths(0, 0), -160);
        Due.is("eighths 1 at its most", withProduct(-160, 160).eighths(0, 1), 160);
    }

    private static void promises20To22() {
        for (int k : new int[] {-8, -7, -6, -4, -3, -2, 160}) {
            boolean isExact = k != -7 && k != -3;
            long bits = Double.doubleToRawLongBits(k / 8.0);
            Steadygrowth x = with(Answers.BACK, k);
            Due.is("isExact of BACK " + k, x.isExact(0), isExact);
            Due.is("upper of BACK " + k, x.upper(0), isExact ? (int) (bits >> 32) : NONE);
            Due.is("lower of BACK " + k, x.lower(0), isExact ? (int) bits : NONE);
        }
        for (int kind = 0; kind < 10; kind++) {
            Steadygrowth x = Answers.with(ofKind(kind));
            boolean isExact = kind == Answers.ARGUMENT || kind == Answers.BACK;
            Due.is("isExact of KIND " + kind, x.isExact(0), isExact);
            Due.is("upper of KIND " + kind, x.upper(0), isExact ? 0x3FF20000 : NONE);
            Due.is("lower of KIND " + kind, x.lower(0), isExact ? 0 : NONE);
        }
    }

    private static void promise23() {
        for (int kind = 0; kind < 10; kind++) {
            boolean isPower = kind == 1 || kind == 4 || kind == 6 || kind == 9;
            for (int k = -160; k <= 160; k++) {
                if (Answers.exists(kind, k)) {
                    Due.is("sign of KIND " + kind + ", " + k, with(kind, k).sign(0), isPower ? 1 : Integer.signum(k));
                }
            }
        }
        Due.is("sign of the least PRODUCT", withProduct(-160, 0).sign(0), 1);
        Due.is("sign of a PRODUCT that is 1", withProduct(-160, 160).sign(0), 1);
    }

    private static void promise24() {
        Due.is("lead of the least EXP", with(1, -160).lead(0), -29);
        Due.is("lead of the greatest EXP", with(1, 160).lead(0), 28);
        Due.is("lead of the least SIZE of an ARGUMENT", with(0, -1).lead(0), -3);
        Due.is("lead of -1", with(0, -8).lead(0), 0);
        Due.is("lead just under 1", with(2, -160).lead(0), -1);
        Due.is("lead of the VALUE 0", with(0, 0).lead(0), NONE);
        Due.is("lead of the VALUE 0 of an EXPM1", with(2, 0).lead(0), NONE);
        Due.is("lead of one that is not CLEAR", with(9, 1).lead(0), NONE);
        Due.is("lead of a WHOLE that is", with(9, 0).lead(0), 0);
    }

    private static void promise25() {
        Due.is("head of one digit", with(1, 160).head(0, 1), 1);
        Due.is("head of 31 digits", with(1, 160).head(0, 31), 1940660781);
        Due.is("head of 31 digits, as section 2 says", with(1, 160).head(0, 31),
                Truth.head(Truth.power(160), 31));
        Due.is("head below 0 has no sign", with(0, -160).head(0, 3), 5);
        Due.is("head of the VALUE 0 in one digit", with(0, 0).head(0, 1), 0);
        Due.is("head of the VALUE 0 in 31 digits", with(3, 0).head(0, 31), 0);
        Due.is("head of one that is not CLEAR", with(8, -1).head(0, 1), NONE);
        Due.is("head of one that is not CLEAR in 31", with(8, -1).head(0, 31), NONE);
    }

    /** The least and the greatest tail that there are, but for those that are 0. */
    private static void promise26() {
        Due.is("the greatest tail", with(1, -94).tail(0), 16375);
        Due.is("the least tail", with(1, 148).tail(0), 60);
        Due.is("tail of what has fewer digits", with(0, 159).tail(0), 0);
        Due.is("tail of the VALUE 0", with(7, 0).tail(0), 0);
        Due.is("tail of one that is not CLEAR", with(7, -3).tail(0), NONE);
        for (int k = -160; k <= 160; k++) {
            String text = with(2, k).digits(0, 45);
            String last = k == 0 ? "0" : text.substring(text.indexOf(' ') - 14, text.indexOf(' '));
            Due.is("tail of EXPM1 " + k + " is what head leaves", with(2, k).tail(0), Integer.parseInt(last, 2));
        }
    }

    private static void promise27() {
        Due.is("one digit", with(0, 8).digits(0, 1), "1 0");
        Due.is("one digit below 0", with(0, -8).digits(0, 1), "-1 0");
        Due.is("45 digits", with(0, 8).digits(0, 45), "1" + "0".repeat(44) + " 0");
        Due.is("45 digits below 0", with(0, -1).digits(0, 45), "-1" + "0".repeat(44) + " -3");
        Due.is("45 digits of the greatest", with(1, 160).digits(0, 45).length(), 48);
        Due.is("45 digits of the least", with(1, -160).digits(0, 45).length(), 49);
        Due.is("just 0", with(0, 0).digits(0, 1), "0");
        Due.is("just 0 in 45", with(8, 0).digits(0, 45), "0");
        Due.is("not CLEAR in 1", withProduct(-1, 1).digits(0, 1), "");
        Due.is("not CLEAR in 45", withProduct(-1, 1).digits(0, 45), "");
    }

    private static void promise28() {
        Due.is("floor of what is whole", with(0, -8).floorOf(0, 0), -1);
        Due.is("floor just below it", with(0, -9).floorOf(0, 0), -2);
        Due.is("floor just above it", with(0, -7).floorOf(0, 0), -1);
        Due.is("floor under 1", with(0, 7).floorOf(0, 0), 0);
        Due.is("floor of 1", with(0, 8).floorOf(0, 0), 1);
        Due.is("floor of 1 / 8 at 2", with(0, 1).floorOf(0, 2), 0);
        Due.is("floor of 1 / 8 at 3", with(0, 1).floorOf(0, 3), 1);
        Due.is("floor of -1 / 8 at 2", with(0, -1).floorOf(0, 2), -1);
        Due.is("floor of -1 / 8 at 3", with(0, -1).floorOf(0, 3), -1);
        Due.is("floor of -1 / 8 at 4", with(0, -1).floorOf(0, 4), -2);
        Due.is("floor of the least EXP at 28", with(1, -160).floorOf(0, 28), 0);
        Due.is("floor of the least EXP at 29", with(1, -160).floorOf(0, 29), 1);
        Due.is("floor of the least EXP at 40", with(1, -160).floorOf(0, 40), 2266);
        Due.is("floor of the least LESS at 0", with(5, -160).floorOf(0, 0), -1);
        Due.is("floor of a BACK below 0", with(7, -5).floorOf(0, 3), -5);
        Due.is("floor of the VALUE 0 at 40", with(2, 0).floorOf(0, 40), 0);
    }

    /** "NONE if it is not CLEAR, or SIZE * 2^scale is not below 2^30". */
    private static void promise28Beyond() {
        for (int sign : new int[] {1, -1}) {
            Due.is("2^29", with(0, 8 * sign).floorOf(0, 29), sign << 29);
            Due.is("2^30", with(0, 8 * sign).floorOf(0, 30), NONE);
            Due.is("15 / 16 of 2^30", with(0, 15 * sign).floorOf(0, 29), sign * 1006632960);
            Due.is("2 * 2^29", with(0, 16 * sign).floorOf(0, 29), NONE);
            Due.is("1 / 8 at 32", with(0, sign).floorOf(0, 32), sign << 29);
            Due.is("1 / 8 at 33", with(0, sign).floorOf(0, 33), NONE);
            Due.is("20 at 25", with(0, 160 * sign).floorOf(0, 25), sign * 671088640);
            Due.is("20 at 26", with(0, 160 * sign).floorOf(0, 26), NONE);
            Due.is("20 at 40", with(0, 160 * sign).floorOf(0, 40), NONE);
        }
        Due.is("just under 2^30, below 0", with(2, -160).floorOf(0, 30), -1073741822);
        Due.is("the same of a LESS", with(5, -160).floorOf(0, 30), -1073741822);
        Due.is("the same, a power of two above", with(2, -160).floorOf(0, 31), NONE);
        Due.is("EXP 160 at 1", with(1, 160).floorOf(0, 1), 970330390);
        Due.is("EXP 160 at 2", with(1, 160).floorOf(0, 2), NONE);
        Due.is("LOG1P 160 at 28", with(3, 160).floorOf(0, 28), 817257768);
        Due.is("LOG1P 160 at 29", with(3, 160).floorOf(0, 29), NONE);
        Due.is("not CLEAR", with(9, 1).floorOf(0, 0), NONE);
        Due.is("a PRODUCT that is 1, but not CLEAR", withProduct(-1, 1).floorOf(0, 0), NONE);
    }

    private static void promise29() {
        for (int kind : new int[] {1, 2, 5, 6}) {
            int due = kind == 2 || kind == 5 ? 981351767 : 981351775;
            Due.is("nearest of KIND " + kind + ", 149", with(kind, 149).nearest(0), due);
            Due.is("nearest of KIND " + kind + ", 150", with(kind, 150).nearest(0), NONE);
            Due.is("nearest of KIND " + kind + ", 160", with(kind, 160).nearest(0), NONE);
        }
        Due.is("nearest of a PRODUCT, 149", withProduct(0, 149).nearest(0), 981351775);
        Due.is("nearest of a PRODUCT, 150", withProduct(-10, 160).nearest(0), NONE);
        Due.is("just above a half", with(1, -22).nearest(0), 1);
        Due.is("just below a half", with(1, -23).nearest(0), 0);
        Due.is("the nearest to a half", with(3, 41).nearest(0),
                Truth.floor(Truth.log(41).multiply(java.math.BigDecimal.valueOf(8))
                        .add(new java.math.BigDecimal("0.5"))).intValueExact());
        Due.is("below 0, of a half", with(2, -1).nearest(0), -1);
        Due.is("the least of all EXPM1", with(2, -160).nearest(0), -8);
        Due.is("an ARGUMENT is its own", with(0, -160).nearest(0), -160);
        Due.is("what is not CLEAR has one, too", withProduct(-160, 160).nearest(0), 8);
        Due.is("of a THERE", with(8, -7).nearest(0), -7);
        Due.is("of the greatest WHOLE", with(9, 160).nearest(0), 168);
    }

    private static void promise30() {
        for (int k : new int[] {-160, -9, -8, -7, 0, 160}) {
            Due.is("back of EXPM1 " + k, with(2, k).back(0), k);
        }
        for (int kind = 0; kind < 10; kind++) {
            Due.is("back of KIND " + kind, Answers.with(ofKind(kind)).back(0), kind == 2 ? 9 : NONE);
        }
    }

    // ---- how two stand

    private static void promise31() {
        for (int sign : new int[] {1, -1}) {
            Steadygrowth x = with(0, 160 * sign);
            Due.is("over 639 / 32", x.against(0, 639 * sign, 32), sign);
            Due.is("at 640 / 32", x.against(0, 640 * sign, 32), 0);
            Due.is("below 641 / 32", x.against(0, 641 * sign, 32), -sign);
            Due.is("the farthest over, 1 below", x.against(0, 1000000000 * sign, 1), -sign);
            Due.is("the farthest over, 32 below", x.against(0, 1000000000 * sign, 32), -sign);
            Due.is("the other farthest over", x.against(0, -1000000000 * sign, 1), sign);
            Steadygrowth one = with(0, sign);
            Due.is("at 4 / 32", one.against(0, 4 * sign, 32), 0);
            Due.is("over 3 / 32", one.against(0, 3 * sign, 32), sign);
            Due.is("over 0 / 1", one.against(0, 0, 1), sign);
        }
        Steadygrowth greatest = with(1, 160);
        Due.is("EXP 160 and the greatest fraction", greatest.against(0, 1000000000, 1), -1);
        Due.is("EXP 160 and half of it", greatest.against(0, 1000000000, 2), -1);
        Due.is("EXP 160 and a third of it", greatest.against(0, 1000000000, 3), 1);
        Due.is("EXP 160 and the whole number under it", greatest.against(0, 485165195, 1), 1);
        Due.is("EXP 160 and the whole number above it", greatest.against(0, 485165196, 1), -1);
        Due.is("EXP -160 and 0", with(1, -160).against(0, 0, 1), 1);
        Due.is("EXP -160 and the least fraction above 0", with(1, -160).against(0, 1, 32), -1);
        Due.is("EXPM1 -160 and -1", with(2, -160).against(0, -1, 1), 1);
        Due.is("EXPM1 -160 and -31 / 32", with(2, -160).against(0, -31, 32), -1);
        Due.is("EXPM1 0 and 0 / 32", with(2, 0).against(0, 0, 32), 0);
        Due.is("EXPM1 0 and 1 / 32", with(2, 0).against(0, 1, 32), -1);
        Due.is("EXPM1 0 and -1 / 32", with(2, 0).against(0, -1, 32), 1);
        Due.is("BACK -7, not CLEAR", with(7, -7).against(0, -7, 8), -9);
        Due.is("BACK -6, CLEAR", with(7, -6).against(0, -6, 8), 0);
        Due.is("THERE 1, not CLEAR", with(8, 1).against(0, 1, 8), -9);
    }

    private static void promises32And33() {
        Steadygrowth x = Answers.with(Answers.of(1, 0), Answers.of(9, 0), Answers.of(2, -160), Answers.of(2, -159));
        Due.is("order of a cell to itself", x.order(2, 2), 0);
        Due.is("isLevel of a cell with itself", x.isLevel(2, 2), true);
        Due.is("order of LEVEL ones", x.order(0, 1), 0);
        Due.is("isLevel of LEVEL ones", x.isLevel(0, 1), true);
        Due.is("order of the nearest two", x.order(2, 3), -1);
        Due.is("order of the nearest two turned", x.order(3, 2), 1);
        Due.is("isLevel of the nearest two", x.isLevel(2, 3), false);
        Due.is("order below 0 and above", x.order(2, 0), -1);
        Due.is("order of the VALUE 0 and below it", x.order(7, 2), 1);
        Due.is("order of the VALUE 0 and above it", x.order(7, 0), -1);
    }

    private static void promise34() {
        Steadygrowth x = Answers.with(Answers.of(1, 8), Answers.of(6, 8), new Answers(4, 0, 8), new Answers(4, 1, 7));
        Due.is("same of a cell with itself", x.same(3, 3), 1);
        Due.is("same of EXP and MORE 8", x.same(0, 1), 0);
        Due.is("same of EXP and PRODUCT", x.same(0, 2), 1);
        Due.is("same of EXP and another PRODUCT", x.same(0, 3), -9);
        Due.is("same of what is not LEVEL", x.same(0, 4), 0);
        Due.is("what is asked is no act", x.house(1), 0);
    }

    private static void promise35() {
        for (int kind = 0; kind < 10; kind++) {
            Answers a = kind == Answers.PRODUCT ? new Answers(4, 0, 0) : Answers.of(kind, kind == 5 ? 8 : 0);
            Steadygrowth x = Answers.with(a, Answers.of(1, 0));
            int due = kind == 1 ? 1 : -9;
            Due.is("productWithin, the first of KIND " + kind, x.productWithin(0, 1, 1), due);
            Due.is("productWithin, the second of KIND " + kind, x.productWithin(1, 0, 1), due);
            Due.is("productWithin, the third of KIND " + kind, x.productWithin(1, 1, 0), due);
            Due.is("productWithin is no act", x.house(1), 0);
        }
        Due.is("productWithin of one cell", with(1, 0).productWithin(0, 0, 0), 1);
        Due.is("productWithin of one cell that is not 1", with(1, 1).productWithin(0, 0, 0), 0);
    }

    private static void promise36() {
        for (int kind = 0; kind < 10; kind++) {
            Answers a = kind == Answers.PRODUCT ? new Answers(4, 0, 0) : Answers.of(kind, kind == 5 ? 8 : 0);
            Steadygrowth x = Answers.with(a, Answers.of(1, 0));
            int due = kind == 1 ? 1 : -9;
            Due.is("inverseWithin, the first of KIND " + kind, x.inverseWithin(0, 1), due);
            Due.is("inverseWithin, the second of KIND " + kind, x.inverseWithin(1, 0), due);
            Due.is("inverseWithin is no act", x.house(1), 0);
        }
        Steadygrowth x = Answers.with(Answers.of(1, -160), Answers.of(1, 160), Answers.of(1, 159));
        Due.is("inverseWithin at the ends", x.inverseWithin(0, 1), 1);
        Due.is("inverseWithin beside them", x.inverseWithin(0, 2), 0);
    }

    private static void promise37() {
        for (int kind = 0; kind < 10; kind++) {
            Answers a = kind == Answers.PRODUCT ? new Answers(4, 0, 8) : Answers.of(kind, 8);
            Steadygrowth x = Answers.with(a, Answers.of(1, 8), Answers.of(2, 8));
            Due.is("lessWithin, the first of KIND " + kind, x.lessWithin(0, 2), kind == 1 ? 1 : -9);
            Due.is("lessWithin, the other of KIND " + kind, x.lessWithin(1, 0), kind == 2 ? 1 : -9);
            Due.is("lessWithin is no act", x.house(1), 0);
        }
        Due.is("lessWithin at 0", Answers.with(Answers.of(1, 0), Answers.of(2, 0)).lessWithin(0, 1), 1);
        Due.is("lessWithin beside 0", Answers.with(Answers.of(1, 1), Answers.of(2, 0)).lessWithin(0, 1), 0);
    }

    private static void promise38() {
        Due.is("wayWithin of WHOLE 160 to the most", with(9, 160).wayWithin(0, 168), 1);
        Due.is("wayWithin of WHOLE 160 beside", with(9, 160).wayWithin(0, 167), 0);
        Due.is("wayWithin of WHOLE 159 to the most", with(9, 159).wayWithin(0, 168), 0);
        Due.is("wayWithin of THERE 160 to its FIRST", with(8, 160).wayWithin(0, 160), 1);
        Due.is("wayWithin of THERE 160 to the most", with(8, 160).wayWithin(0, 168), 0);
        Due.is("wayWithin of BACK -8 to its FIRST", with(7, -8).wayWithin(0, -8), 1);
        Due.is("wayWithin of BACK -8 to the least", with(7, -8).wayWithin(0, -160), 0);
        Due.is("wayWithin of WHOLE -7", with(9, -7).wayWithin(0, 1), 1);
        Due.is("wayWithin of WHOLE -7 to its FIRST", with(9, -7).wayWithin(0, -7), 0);
        for (int kind = 0; kind < 10; kind++) {
            Steadygrowth x = Answers.with(ofKind(kind));
            int due = kind < 7 ? -9 : 1;
            Due.is("wayWithin of KIND " + kind, x.wayWithin(0, kind == 9 ? 17 : 9), due);
            Due.is("wayWithin is no act", x.house(1), 0);
        }
    }

    // ---- growth

    private static void promises39And40() {
        for (int kind = 0; kind < 10; kind++) {
            Steadygrowth x = Answers.with(ofKind(kind));
            for (boolean isAbove : new boolean[] {false, true}) {
                int due = kind != 1 ? -9 : isAbove ? 1 : -1;
                Due.is("growth of KIND " + kind, x.growth(0, 64, isAbove), due);
                Due.is("growthAgainst KIND " + kind, x.growthAgainst(9, 64, isAbove, 0), due);
                Due.is("growth of KIND " + kind + " in one step", x.growth(0, 1, isAbove), -9);
                Due.is("growthAgainst KIND " + kind + " in one step", x.growthAgainst(9, 1, isAbove, 0), -9);
            }
            Due.is("growth is no act", x.house(1), 0);
        }
        Steadygrowth x = Answers.with(Answers.of(1, 160), Answers.of(1, -160), Answers.of(1, 0), Answers.of(1, 7));
        Due.is("growth of 160 in 20", x.growth(0, 20, false), -9);
        Due.is("growth of 160 in 21", x.growth(0, 21, false), -1);
        Due.is("growth of -160 in 20", x.growth(1, 20, true), -9);
        Due.is("growth of -160 in 21", x.growth(1, 21, true), 1);
        Due.is("growth of 0 in 1", x.growth(2, 1, true), 0);
        Due.is("growth of 7 in 1", x.growth(3, 1, false), -1);
        Due.is("growthAgainst 160 in 20", x.growthAgainst(160, 20, true, 2), -9);
        Due.is("growthAgainst 160 in 21", x.growthAgainst(160, 21, true, 2), 1);
        Due.is("growthAgainst -160 in 21", x.growthAgainst(-160, 21, true, 2), -1);
        Due.is("growthAgainst 0, the same", x.growthAgainst(0, 64, false, 2), 0);
        Due.is("growthAgainst 8 in 1", x.growthAgainst(8, 1, false, 2), -9);
        Due.is("growthAgainst -8 in 1", x.growthAgainst(-8, 1, true, 2), -9);
    }

    private static void promise41() {
        Steadygrowth x = new Steadygrowth();
        Due.is("from the fewest to the most steps, below", x.growthOrder(1, 1, 64, false), -1);
        Due.is("from the fewest to the most steps, above", x.growthOrder(1, 1, 64, true), 1);
        Due.is("from the most to the fewest steps, below", x.growthOrder(-1, 64, 1, false), 1);
        Due.is("from the most to the fewest steps, above", x.growthOrder(-1, 64, 1, true), -1);
        Due.is("of 0", x.growthOrder(0, 1, 64, false), 0);
        Due.is("in the same steps", x.growthOrder(160, 21, 21, false), 0);
        Due.is("none in the first", x.growthOrder(160, 20, 21, false), -9);
        Due.is("none in the second", x.growthOrder(160, 21, 20, true), -9);
        Due.is("none in both", x.growthOrder(-160, 20, 20, true), -9);
        Due.is("both", x.growthOrder(-160, 21, 22, true), 1);
        Due.is("-9 of what is asked is not counted", x.house(1), 0);
    }

    /** 64 n - k k is below 0, 0 and above 0. */
    private static void promise42() {
        int[][] told = {{0, 1}, {7, 1}, {-7, 1}, {160, 21}, {-160, 21}, {160, 64}, {-160, 64}, {64, 64}, {-64, 64},
            {63, 64}, {-63, 64}, {65, 64}, {1, 64}, {-1, 64}, {16, 4}, {15, 4}, {-15, 4}};
        for (int[] both : told) {
            int due = 8 * both[1] > Math.abs(both[0]) ? 1 : -9;
            Due.is("growthNear of " + both[0] + " in " + both[1], with(1, both[0]).growthNear(0, both[1]), due);
        }
        Due.is("growthNear of 8 in 1", with(1, 8).growthNear(0, 1), -9);
        Due.is("growthNear of -8 in 1", with(1, -8).growthNear(0, 1), -9);
        Due.is("growthNear of 160 in 20", with(1, 160).growthNear(0, 20), -9);
        for (int kind = 0; kind < 10; kind++) {
            Due.is("growthNear of KIND " + kind, Answers.with(ofKind(kind)).growthNear(0, 64), kind == 1 ? 1 : -9);
        }
    }

    // ---- all cells

    /** "the least FIRST of that KIND whose ANSWER is not BELOW": a LEVEL one is the one. */
    private static void promise43() {
        for (int k : new int[] {-160, -159, -1, 0, 1, 159, 160}) {
            Due.is("first of EXP " + k, with(1, k).first(0, 1), k);
            Due.is("first of EXPM1 " + k, with(2, k).first(0, 2), k);
            if (k >= -7) {
                Due.is("first of LOG1P " + k, with(3, k).first(0, 3), k);
            }
        }
        Due.is("first of LOG1P -7", with(3, -7).first(0, 3), -7);
        Due.is("first of EXP past 1", with(0, 8).first(0, 1), 0);
        Due.is("first of EXP past 9 / 8", with(0, 9).first(0, 1), 1);
        Due.is("first of EXP past 7 / 8", with(0, 7).first(0, 1), -1);
        Due.is("first of EXPM1 past 0", with(0, 0).first(0, 2), 0);
        Due.is("first of EXPM1 past 1 / 8", with(0, 1).first(0, 2), 1);
        Due.is("first of EXPM1 past -1 / 8", with(0, -1).first(0, 2), -1);
        Due.is("first of LOG1P past 0", with(0, 0).first(0, 3), 0);
        Due.is("first of LOG1P past -1 / 8", with(0, -1).first(0, 3), 0);
        Due.is("first of LOG1P past -2 / 8", with(0, -2).first(0, 3), -1);
        Due.is("first of EXPM1 past LESS -160", with(5, -160).first(0, 2), -160);
        Due.is("first of EXPM1 past LESS 160", with(5, 160).first(0, 2), 160);
        Due.is("first of EXP past MORE -8", with(6, -8).first(0, 1), -8);
        Due.is("first of EXP past a PRODUCT", withProduct(-160, 160).first(0, 1), 0);
    }

    /** The least one where all are above, "161 if there is none" where all are below. */
    private static void promise43None() {
        Due.is("EXP where all are above", with(0, -160).first(0, 1), -160);
        Due.is("EXPM1 where all are above", with(0, -8).first(0, 2), -160);
        Due.is("LOG1P where all are above", with(0, -17).first(0, 3), -7);
        Due.is("LOG1P where all but one are above", with(0, -16).first(0, 3), -6);
        Due.is("EXP past the greatest", with(1, 160).first(0, 1), 160);
        Due.is("EXP past the greatest EXPM1", with(2, 160).first(0, 1), 160);
        Due.is("EXPM1 past the greatest EXP but one", with(1, 159).first(0, 2), 160);
        Due.is("EXPM1 past the greatest EXP", with(1, 160).first(0, 2), 161);
        Due.is("LOG1P past 3", with(0, 24).first(0, 3), 153);
        Due.is("LOG1P past 25 / 8", with(0, 25).first(0, 3), 161);
        Due.is("LOG1P past the greatest", with(3, 160).first(0, 3), 160);
        Due.is("LOG1P past EXP 160", with(1, 160).first(0, 3), 161);
        Steadygrowth x = new Steadygrowth();
        String was = Told.all(x);
        x.first(7, 1);
        Due.is("looking changes nothing", Told.all(x), was);
    }

    private static void promise44() {
        Steadygrowth x = withArguments(-160, -1, 0, 1, 2, 3, 159, 160);
        for (int cell = 0; cell < 8; cell++) {
            Due.is("rank of " + cell, x.rank(cell), cell);
        }
        Steadygrowth alike = withArguments(8, 8, 8, 8, 8, 8, 8, 8);
        Due.is("rank among LEVEL ones", alike.rank(7), 0);
        alike.putExp(3, 0);
        Due.is("rank among LEVEL ones of another KIND", alike.rank(7), 0);
        alike.putEighths(0, 7);
        Due.is("rank above one", alike.rank(7), 1);
    }

    private static void promise45() {
        Steadygrowth alone = withArguments(0, 1, 2, 3, 4, 5, 6, 7);
        Steadygrowth alike = withArguments(8, 8, 8, 8, 8, 8, 8, 8);
        alike.putExp(0, 0);
        alike.putExp(7, 0);
        for (int cell = 0; cell < 8; cell++) {
            Due.is("find of one alone, first", alone.find(cell, false), cell);
            Due.is("find of one alone, last", alone.find(cell, true), cell);
            Due.is("find of LEVEL ones, first", alike.find(cell, false), 0);
            Due.is("find of LEVEL ones, last", alike.find(cell, true), 7);
        }
    }

    private static void promise46() {
        Due.is("the greatest of LEVEL ones", withArguments(8, 8, 8, 8, 8, 8, 8, 8).end(true), 0);
        Due.is("the least of LEVEL ones", withArguments(8, 8, 8, 8, 8, 8, 8, 8).end(false), 0);
        Due.is("the greatest in the last cell", withArguments(0, 1, 2, 3, 4, 5, 6, 7).end(true), 7);
        Due.is("the least in the last cell", withArguments(7, 6, 5, 4, 3, 2, 1, 0).end(false), 7);
        Due.is("the greatest in the first cell", withArguments(7, 6, 5, 4, 3, 2, 1, 7).end(true), 0);
        Due.is("the least in the first cell", withArguments(0, 1, 2, 3, 4, 5, 6, 0).end(false), 0);
        Due.is("the greatest of two", withArguments(0, 9, 2, 9, 4, 5, 6, 7).end(true), 1);
        Due.is("the least of two", withArguments(0, 9, 2, -9, 4, 5, -9, 7).end(false), 3);
    }

    private static void promise47() {
        for (int kind = 0; kind < 10; kind++) {
            Steadygrowth x = Answers.with(ofKind(kind));
            for (int cell = 1; cell < 8; cell++) {
                x.copy(0, cell);
            }
            for (int other = 0; other < 10; other++) {
                Due.is("count of " + other + " where all are " + kind, x.count(other), other == kind ? 8 : 0);
            }
        }
    }

    // ---- the whole

    private static void house(String what, Steadygrowth x, int done, int refused, int knocked) {
        Due.is(what + ": acts done", x.house(0), done);
        Due.is(what + ": acts that told -9", x.house(1), refused);
        Due.is(what + ": knocks", x.house(2), knocked);
    }

    private static void promise48() {
        Steadygrowth x = new Steadygrowth();
        house("a new one", x, 0, 0, 0);
        x.putEighths(0, 0);
        house("an act when all stays as it was", x, 1, 0, 0);
        x.swap(3, 3);
        house("a swap of a cell with itself", x, 2, 0, 0);
        x.sort();
        house("a sort of what is sorted", x, 3, 0, 0);
        x.copy(3, 3);
        house("a copy of a cell to itself", x, 4, 0, 0);
        x.choose(1, 2, true, 0);
        house("a choice of what is there", x, 5, 0, 0);
        x.times(0, 0, 0);
        house("an act that told -9", x, 5, 1, 0);
        x.knock();
        house("a knock is no act", x, 5, 1, 1);
        Due.index("an act that threw", () -> x.sign(8));
        Due.index("an act that threw", () -> x.putExp(8, 0));
        Due.argument("an act that threw", () -> x.putLog1p(0, -8));
        house("what threw is none", x, 5, 1, 1);
        everyAskingOf(x);
        house("what is asked is no act", x, 5, 1, 1);
    }

    /** Every call of promises 18 to 47, 50 and 51, each that may tell -9 so that it does. */
    private static void everyAskingOf(Steadygrowth x) {
        Due.is("-9 that is asked", x.productWithin(0, 0, 0), -9);
        Due.is("-9 that is asked", x.inverseWithin(0, 0), -9);
        Due.is("-9 that is asked", x.lessWithin(0, 0), -9);
        Due.is("-9 that is asked", x.wayWithin(0, 0), -9);
        Due.is("-9 that is asked", x.growth(0, 1, true), -9);
        Due.is("-9 that is asked", x.growthAgainst(0, 1, true, 0), -9);
        Due.is("-9 that is asked", x.growthOrder(8, 1, 1, true), -9);
        Due.is("-9 that is asked", x.growthNear(0, 1), -9);
        Told.all(x);
        x.isExact(0);
        x.against(0, 0, 1);
        x.floorOf(0, 0);
        x.first(0, 1);
    }

    private static void promise49() {
        Steadygrowth x = new Steadygrowth();
        Due.is("the first knock", x.knock(), 1);
        Due.is("the second knock", x.knock(), 2);
        Due.is("knocks", x.house(2), 2);
        Due.is("another object was not knocked at", new Steadygrowth().knock(), 1);
    }

    private static void promise50() {
        Due.is("a new one", new Steadygrowth().isSound(), true);
        Due.is("one with the ends", Answers.with(Answers.of(1, 160), Answers.of(2, -160), Answers.of(3, -7),
                new Answers(4, -160, 160), Answers.of(5, -160), Answers.of(6, -8)).isSound(), true);
        Due.is("one with the ways", Answers.with(Answers.of(7, -7), Answers.of(7, -8), Answers.of(7, -3),
                Answers.of(8, -7), Answers.of(9, -7), Answers.of(9, 160)).isSound(), true);
        Due.is("one with what lies nearest", Answers.with(Answers.of(2, -160), Answers.of(2, -159),
                Answers.of(5, -158), Answers.of(1, 0), Answers.of(9, 0), Answers.of(0, 9)).isSound(), true);
        Steadygrowth x = new Steadygrowth();
        x.times(0, 0, 0);
        Due.index("what throws", () -> x.kind(8));
        Due.is("after -9 and what threw", x.isSound(), true);
    }

    /** Wraps around as a 64-bit integer: it is what is left of the whole number, sign and all. */
    private static void wrapsAround(String what, Steadygrowth x) {
        BigInteger whole = BigInteger.valueOf(7921);
        for (int v : Told.parts(x)) {
            whole = whole.multiply(BigInteger.valueOf(31)).add(BigInteger.valueOf(v));
        }
        Due.isTrue(what + ": the whole number is far beyond 64 digits", whole.bitLength() > 1000);
        Due.is(what + ": digest", x.digest(), whole.longValue());
        Due.is(what + ": digest again", x.digest(), whole.longValue());
    }

    private static void promise51() {
        int below = 0;
        int above = 0;
        for (int k = 0; k < 16; k++) {
            Steadygrowth x = Answers.with(Answers.of(1, k - 160), Answers.of(2, 160 - k), Answers.of(9, k - 7));
            wrapsAround("with " + k, x);
            below += x.digest() < 0 ? 1 : 0;
            above += x.digest() > 0 ? 1 : 0;
        }
        Due.isTrue("some wrap to below 0 and some do not", below > 0 && above > 0);
        wrapsAround("a new one", new Steadygrowth());
        Steadygrowth none = withProduct(-1, 1);
        none.times(0, 0, 0);
        none.knock();
        wrapsAround("one of which NONE and -9 are told", none);
        Due.is("digest of a new one is always the same", new Steadygrowth().digest(), new Steadygrowth().digest());
    }
}
