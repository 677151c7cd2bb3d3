/** Promises 1 to 17: a new object, and what comes to a cell. */
public final class ActsTest {
    public static void main(String[] args) {
        promise1NewObject();
        promise2PutEighths();
        promise3PutExp();
        promise4PutExpm1();
        promise5PutLog1p();
        promise6Exp();
        promise7Expm1();
        promise8Log1p();
        promise9Negate();
        promise10Add();
        promise11Times();
        promise12LessOne();
        promise13PlusOne();
        promise14Copy();
        promise15Swap();
        promise16Choose();
        promise17Sort();
        everyCellOfEveryActIsLookedAt();
        whatThrowsChangesNothing();
        Due.finish();
    }

    private static void promise1NewObject() {
        Steadygrowth x = new Steadygrowth();
        for (int cell = 0; cell < 8; cell++) {
            Told.has("new " + cell, x, cell, 0, 0, 0);
            Due.is("new sign", x.sign(cell), 0);
            Due.is("new digits", x.digits(cell, 45), "0");
        }
        for (int what = 0; what < 3; what++) {
            Due.is("new house " + what, x.house(what), 0);
        }
        Steadygrowth other = new Steadygrowth();
        other.putExp(0, 5);
        Due.is("another object has its own cells", x.kind(0), 0);
    }

    private interface Put {
        int put(Steadygrowth x, int cell, int eighths);
    }

    private static void putComes(String name, int kind, int least, Put put) {
        for (int k = least; k <= 160; k++) {
            Steadygrowth x = new Steadygrowth();
            int cell = (k + 160) % 8;
            Due.is(name + " " + k, put.put(x, cell, k), kind == 0 && k == 0 ? 0 : 1);
            Told.has(name + " " + k, x, cell, kind, k, 0);
            Due.is(name + " again " + k, put.put(x, cell, k), 0);
        }
        Steadygrowth x = new Steadygrowth();
        Due.index(name + "(8, 0)", () -> put.put(x, 8, 0));
        Due.index(name + "(-1, 0)", () -> put.put(x, -1, 0));
        Due.index(name + "(8, 161)", () -> put.put(x, 8, 161));
        Due.argument(name + "(0, 161)", () -> put.put(x, 0, 161));
        Due.argument(name + " too low", () -> put.put(x, 0, least - 1));
        Due.argument(name + " far too low", () -> put.put(x, 7, Integer.MIN_VALUE));
        Due.is(name + " that threw is no act", x.house(0), 0);
        Told.has(name + " that threw", x, 0, 0, 0, 0);
    }

    private static void promise2PutEighths() {
        putComes("putEighths", 0, -160, (x, cell, k) -> x.putEighths(cell, k));
    }

    private static void promise3PutExp() {
        putComes("putExp", 1, -160, (x, cell, k) -> x.putExp(cell, k));
    }

    private static void promise4PutExpm1() {
        putComes("putExpm1", 2, -160, (x, cell, k) -> x.putExpm1(cell, k));
    }

    private static void promise5PutLog1p() {
        putComes("putLog1p", 3, -7, (x, cell, k) -> x.putLog1p(cell, k));
    }

    private interface Turn {
        int turn(Steadygrowth x, int from, int into);
    }

    private interface Makes {
        /** The KIND that is made, or -1. */
        int of(int kind, int first);
    }

    /** Each ANSWER is taken once: what comes of it, or -9 and nothing changed. */
    private static void turns(String name, Turn turn, Makes makes) {
        for (Answers a : Answers.most()) {
            Steadygrowth x = Answers.with(a);
            x.putExp(1, 1);
            x.times(1, 1, 1);
            int acts = x.house(0);
            int made = makes.of(a.kind(), a.first());
            String what = name + " of " + a;
            Due.is(what, turn.turn(x, 0, 1), made < 0 ? -9 : 1);
            Due.is(what + " acts", x.house(0), made < 0 ? acts : acts + 1);
            Due.is(what + " refused", x.house(1), made < 0 ? 1 : 0);
            int comes = name.equals("negate") ? -a.first() : a.first();
            Told.has(what, x, 1, made < 0 ? 4 : made, made < 0 ? 1 : comes, made < 0 ? 1 : 0);
            Told.has(what + " taken", x, 0, a.kind(), a.first(), a.second());
            if (made >= 0) {
                Due.is(what + " again", turn.turn(x, 0, 1), 0);
                boolean isOne = made == a.kind() && comes == a.first();
                Due.is(what + " into itself", turn.turn(x, 0, 0), isOne ? 0 : 1);
                Told.has(what + " into itself", x, 0, made, comes, 0);
            }
        }
    }

    private static void promise6Exp() {
        turns("exp", (x, from, into) -> x.exp(from, into), (kind, k) -> kind == 0 ? 1 : kind == 3 ? 9 : -1);
    }

    private static void promise7Expm1() {
        turns("expm1", (x, from, into) -> x.expm1(from, into), (kind, k) -> kind == 0 ? 2 : kind == 3 ? 8 : -1);
    }

    private static void promise8Log1p() {
        turns("log1p", (x, from, into) -> x.log1p(from, into),
                (kind, k) -> kind == 0 && k >= -7 ? 3 : kind == 2 && k >= -8 ? 7 : -1);
    }

    private static void promise9Negate() {
        turns("negate", (x, from, into) -> x.negate(from, into), (kind, k) -> kind == 0 ? 0 : -1);
    }

    private static void promise10Add() {
        int[][] sums = {{0, 0}, {3, 4}, {-5, 5}, {160, 0}, {160, 1}, {80, 80}, {80, 81}, {-160, 0}, {-160, -1},
            {-80, -80}, {-81, -80}, {160, 160}, {-160, -160}, {160, -160}};
        for (int[] pair : sums) {
            Steadygrowth x = new Steadygrowth();
            x.putEighths(0, pair[0]);
            x.putEighths(1, pair[1]);
            x.putExp(2, 3);
            int sum = pair[0] + pair[1];
            boolean isLet = sum >= -160 && sum <= 160;
            String what = "add " + pair[0] + " " + pair[1];
            Due.is(what, x.add(0, 1, 2), isLet ? 1 : -9);
            Told.has(what, x, 2, isLet ? 0 : 1, isLet ? sum : 3, 0);
            Due.is(what + " again", x.add(1, 0, 2), isLet ? 0 : -9);
            Due.is(what + " refused", x.house(1), isLet ? 0 : 2);
        }
        for (int kind = 1; kind < 10; kind++) {
            Answers other = kind == 4 ? new Answers(4, 6, 7) : Answers.of(kind, 9);
            Steadygrowth x = Answers.with(other);
            x.putEighths(1, 5);
            Due.is("add of kind " + kind, x.add(0, 1, 2), -9);
            Due.is("add to kind " + kind, x.add(1, 0, 2), -9);
        }
    }

    private static void promise11Times() {
        int[][] sums = {{8, -8}, {-8, 8}, {3, 3}, {0, 5}, {5, 0}, {160, 0}, {160, 1}, {100, 60}, {100, 61}, {-160, 0},
            {-160, -1}, {-100, -60}, {-100, -61}, {160, -160}, {0, 0}};
        for (int[] pair : sums) {
            Steadygrowth x = new Steadygrowth();
            x.putExp(0, pair[0]);
            x.putExp(1, pair[1]);
            int sum = pair[0] + pair[1];
            boolean isLet = sum >= -160 && sum <= 160;
            String what = "times " + pair[0] + " " + pair[1];
            Due.is(what, x.times(0, 1, 2), isLet ? 1 : -9);
            Told.has(what, x, 2, isLet ? 4 : 0, isLet ? Math.min(pair[0], pair[1]) : 0,
                    isLet ? Math.max(pair[0], pair[1]) : 0);
            Due.is(what + " the other way", x.times(1, 0, 2), isLet ? 0 : -9);
            Due.is(what + " refused", x.house(1), isLet ? 0 : 2);
        }
        for (int kind = 0; kind < 10; kind++) {
            if (kind != 1) {
                Steadygrowth x = Answers.with(kind == 4 ? new Answers(4, 6, 7) : Answers.of(kind, 9));
                x.putExp(1, 5);
                Due.is("times of kind " + kind, x.times(0, 1, 2), -9);
                Due.is("times to kind " + kind, x.times(1, 0, 2), -9);
            }
        }
        Steadygrowth x = new Steadygrowth();
        x.putExp(0, 7);
        Due.is("times into one taken", x.times(0, 0, 0), 1);
        Told.has("times into one taken", x, 0, 4, 7, 7);
    }

    private static void promise12LessOne() {
        turns("lessOne", (x, from, into) -> x.lessOne(from, into),
                (kind, k) -> kind == 1 && (k <= -8 || k >= 6) ? 5 : -1);
    }

    private static void promise13PlusOne() {
        turns("plusOne", (x, from, into) -> x.plusOne(from, into), (kind, k) -> kind == 2 && k >= -8 ? 6 : -1);
    }

    private static void promise14Copy() {
        for (Answers a : Answers.most()) {
            Steadygrowth x = Answers.with(a);
            x.putLog1p(1, 99);
            boolean isLog = a.equals(Answers.of(3, 99));
            String what = "copy of " + a;
            Due.is(what, x.copy(0, 1), isLog ? 0 : 1);
            Told.has(what, x, 1, a.kind(), a.first(), a.second());
            Due.is(what + " text", x.digits(1, 45), x.digits(0, 45));
            Due.is(what + " order", x.order(0, 1), 0);
            Due.is(what + " again", x.copy(0, 1), 0);
            Due.is(what + " to itself", x.copy(0, 0), 0);
            x.putExp(0, -50);
            Told.has(what + " stays", x, 1, a.kind(), a.first(), a.second());
        }
    }

    private static void promise15Swap() {
        Steadygrowth x = Answers.with(Answers.of(1, 5), Answers.of(3, -2));
        int acts = x.house(0);
        Due.is("swap", x.swap(0, 1), 1);
        Told.has("swap 0", x, 0, 3, -2, 0);
        Told.has("swap 1", x, 1, 1, 5, 0);
        Due.is("swap of the same cell", x.swap(1, 1), 0);
        Told.has("swap of the same cell", x, 1, 1, 5, 0);
        x.copy(0, 2);
        Due.is("swap of what is ONE", x.swap(0, 2), 0);
        x.putExp(0, 6);
        Told.has("swapped cells stay two", x, 2, 3, -2, 0);
        x.putExp(3, 0);
        x.putExpm1(4, 0);
        x.plusOne(4, 4);
        Due.is("swap of LEVEL ones that are not ONE", x.swap(3, 4), 1);
        Due.is("swap is an act", x.house(0), acts + 9);
    }

    private static void promise16Choose() {
        Steadygrowth x = Answers.with(Answers.of(1, 5), Answers.of(1, 4));
        Due.is("choose the greater one", x.choose(0, 1, true, 2), 1);
        Told.has("choose the greater one", x, 2, 1, 5, 0);
        Due.is("choose the greater one again", x.choose(1, 0, true, 2), 0);
        Due.is("choose the lesser one", x.choose(0, 1, false, 2), 1);
        Told.has("choose the lesser one", x, 2, 1, 4, 0);
        Due.is("choose the lesser one again", x.choose(1, 0, false, 2), 0);
        x.putExp(3, 0);
        x.putEighths(4, 8);
        Due.is("choose of LEVEL ones", x.choose(4, 3, true, 2), 1);
        Told.has("choose of LEVEL ones", x, 2, 0, 8, 0);
        Due.is("choose of LEVEL ones", x.choose(3, 4, true, 2), 1);
        Told.has("choose of LEVEL ones", x, 2, 1, 0, 0);
        Due.is("choose of LEVEL ones, lesser", x.choose(4, 3, false, 2), 1);
        Told.has("choose of LEVEL ones, lesser", x, 2, 0, 8, 0);
        Due.is("choose of LEVEL ones, lesser", x.choose(3, 4, false, 2), 1);
        Told.has("choose of LEVEL ones, lesser", x, 2, 1, 0, 0);
        Due.is("choose into one taken", x.choose(0, 1, true, 1), 1);
        Told.has("choose into one taken", x, 1, 1, 5, 0);
        Due.is("choose into itself", x.choose(0, 3, true, 0), 0);
    }

    private static void promise17Sort() {
        Steadygrowth x = new Steadygrowth();
        Due.is("sort of a new one", x.sort(), 0);
        x.putExp(0, 0);
        x.putEighths(1, 8);
        x.putExp(2, 9);
        x.putLog1p(3, -7);
        x.putEighths(4, -17);
        x.putExpm1(5, 0);
        x.putExpm1(6, -160);
        x.putEighths(7, 0);
        Due.is("sort", x.sort(), 8);
        int[][] due = {{0, -17}, {3, -7}, {2, -160}, {2, 0}, {0, 0}, {1, 0}, {0, 8}, {1, 9}};
        for (int i = 0; i < 8; i++) {
            Told.has("sorted " + i, x, i, due[i][0], due[i][1], 0);
        }
        Due.is("sort again", x.sort(), 0);
        x.swap(5, 6);
        Due.is("sort leaves LEVEL ones", x.sort(), 0);
        Told.has("sort leaves LEVEL ones", x, 5, 0, 8, 0);
        x.swap(0, 1);
        Due.is("sort of two", x.sort(), 2);
        Due.is("sort is an act", x.house(0), 15);
        x.putExp(0, 77);
        Told.has("sorted cells stay apart", x, 1, 3, -7, 0);
        sortCountsByWhatIsOne();
    }

    /** What moves between cells that have ONE does not count. */
    private static void sortCountsByWhatIsOne() {
        Steadygrowth x = new Steadygrowth();
        for (int i = 0; i < 7; i++) {
            x.putExp(i, 4);
        }
        x.putExp(7, 3);
        Due.is("sort of seven that are ONE", x.sort(), 2);
        Told.has("sort of seven that are ONE", x, 0, 1, 3, 0);
        Told.has("sort of seven that are ONE", x, 7, 1, 4, 0);
    }

    private static void everyCellOfEveryActIsLookedAt() {
        Steadygrowth x = new Steadygrowth();
        Turn[] twos = {(a, from, into) -> a.exp(from, into), (a, from, into) -> a.expm1(from, into),
            (a, from, into) -> a.log1p(from, into), (a, from, into) -> a.negate(from, into),
            (a, from, into) -> a.lessOne(from, into), (a, from, into) -> a.plusOne(from, into),
            (a, from, into) -> a.copy(from, into), (a, from, into) -> a.swap(from, into),
            (a, from, into) -> a.add(from, 0, into), (a, from, into) -> a.add(0, from, into),
            (a, from, into) -> a.times(from, 0, into), (a, from, into) -> a.times(0, from, into),
            (a, from, into) -> a.choose(from, 0, true, into), (a, from, into) -> a.choose(0, from, false, into)};
        for (int i = 0; i < twos.length; i++) {
            Turn turn = twos[i];
            for (int wrong : new int[] {8, -1, Integer.MIN_VALUE, Integer.MAX_VALUE}) {
                Due.index("act " + i + " from " + wrong, () -> turn.turn(x, wrong, 0));
                Due.index("act " + i + " into " + wrong, () -> turn.turn(x, 0, wrong));
            }
        }
        Due.is("no act was done", x.house(0), 0);
        Due.is("none was refused, for exceptions go ahead", x.house(1), 0);
        Due.is("nothing changed", x.digest(), new Steadygrowth().digest());
    }

    private static void whatThrowsChangesNothing() {
        Steadygrowth x = Answers.with(Answers.of(1, 5), Answers.of(3, -2));
        long was = x.digest();
        Due.argument("putExp", () -> x.putExp(0, 200));
        Due.index("times", () -> x.times(0, 0, 9));
        Due.index("swap", () -> x.swap(0, 9));
        Due.argument("house", () -> x.house(3));
        Due.argument("digits", () -> x.digits(0, 46));
        Due.is("digest as before", x.digest(), was);
    }
}
