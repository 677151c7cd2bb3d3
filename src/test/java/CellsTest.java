import java.util.List;

/** Promises 43 to 51: all cells, and the whole. */
public final class CellsTest {
    public static void main(String[] args) {
        promise43First();
        promise44Rank();
        promise45Find();
        promise46End();
        promise47Count();
        promise48House();
        promise49Knock();
        promise50IsSound();
        promise51Digest();
        wrongArguments();
        Due.finish();
    }

    private static void promise43First() {
        List<Answers> all = Answers.most();
        for (int i = 0; i < all.size(); i += 3) {
            Answers a = all.get(i);
            Steadygrowth x = Answers.with(a);
            for (int kind = 1; kind <= 3; kind++) {
                int want = kind == 3 ? -7 : -160;
                while (want <= 160 && Truth.order(Answers.of(kind, want), a) < 0) {
                    want++;
                }
                Due.is("first of kind " + kind + " past " + a, x.first(0, kind), want);
            }
        }
        for (int k = -160; k <= 160; k++) {
            Due.is("first EXP " + k, Answers.with(Answers.of(1, k)).first(0, 1), k);
            Due.is("first EXPM1 " + k, Answers.with(Answers.of(2, k)).first(0, 2), k);
            Due.is("first LOG1P " + k, Answers.with(Answers.of(3, Math.max(-7, k))).first(0, 3), Math.max(-7, k));
        }
        Due.is("first EXP past the least", Answers.with(Answers.of(0, -160)).first(0, 1), -160);
        Due.is("first EXPM1 past what all are above", Answers.with(Answers.of(0, -8)).first(0, 2), -160);
        Due.is("first LOG1P past what all are above", Answers.with(Answers.of(0, -17)).first(0, 3), -7);
        Due.is("first EXPM1 past EXP 160", Answers.with(Answers.of(1, 160)).first(0, 2), 161);
        Due.is("first LOG1P past 4", Answers.with(Answers.of(0, 32)).first(0, 3), 161);
        Due.is("first EXP past 0", new Steadygrowth().first(7, 1), -160);
        Due.is("first EXPM1 past 0", new Steadygrowth().first(7, 2), 0);
    }

    private static void promise44Rank() {
        Steadygrowth x = Answers.with(Answers.of(1, 0), Answers.of(0, 8),
                Answers.of(0, 9), Answers.of(0, -3), Answers.of(3, -7));
        int[] due = {5, 5, 7, 1, 0, 2, 2, 2};
        for (int cell = 0; cell < 8; cell++) {
            Due.is("rank of " + cell, x.rank(cell), due[cell]);
        }
        Due.is("rank in a new one", new Steadygrowth().rank(3), 0);
    }

    private static void promise45Find() {
        Steadygrowth x = Answers.with(Answers.of(0, 1), Answers.of(1, 0),
                Answers.of(0, 1), Answers.of(0, 8), Answers.of(6, 0), Answers.of(0, 3));
        x.putEighths(6, 1);
        x.putEighths(7, 2);
        int[] from = {0, 1, 0, 1, 1, 5, 0, 7};
        int[] to = {6, 4, 6, 4, 4, 5, 6, 7};
        for (int cell = 0; cell < 8; cell++) {
            Due.is("find from the begin " + cell, x.find(cell, false), from[cell]);
            Due.is("find from the end " + cell, x.find(cell, true), to[cell]);
        }
        Due.is("find in a new one", new Steadygrowth().find(4, false), 0);
        Due.is("find in a new one", new Steadygrowth().find(4, true), 7);
    }

    private static void promise46End() {
        Steadygrowth x = Answers.with(Answers.of(0, 1), Answers.of(0, 8),
                Answers.of(1, 0), Answers.of(2, -160), Answers.of(0, -7), Answers.of(2, -160));
        x.putExpm1(5, -160);
        x.putEighths(7, 2);
        Due.is("end of the greatest", x.end(true), 1);
        Due.is("end of the least", x.end(false), 3);
        x.swap(1, 2);
        Due.is("end of the greatest is the smallest cell", x.end(true), 1);
        x.putExp(7, 160);
        Due.is("end at 7", x.end(true), 7);
        x.putEighths(0, -160);
        Due.is("end at 0", x.end(false), 0);
        Due.is("end of a new one", new Steadygrowth().end(true), 0);
        Due.is("end of a new one", new Steadygrowth().end(false), 0);
    }

    private static void promise47Count() {
        for (int kind = 0; kind < 10; kind++) {
            Answers a = kind == 4 ? new Answers(4, 7, 9) : Answers.of(kind, 9);
            Steadygrowth x = Answers.with(a);
            x.putEighths(6, 0);
            x.putEighths(7, 1);
            for (int other = 0; other < 10; other++) {
                Due.is("count of " + other, x.count(other), kind == 0 && other == 0 ? 8 : other == 0 ? 7
                        : other == kind ? 1 : 0);
            }
            x.copy(0, 3);
            Due.is("count of two", x.count(kind), kind == 0 ? 8 : 2);
        }
    }

    private static void promise48House() {
        Steadygrowth x = new Steadygrowth();
        x.putEighths(0, 0);
        Due.is("an act that changes nothing is counted", x.house(0), 1);
        x.lessOne(0, 1);
        Due.is("one that told -9 is none", x.house(0), 1);
        Due.is("one that told -9 is counted apart", x.house(1), 1);
        Due.index("throws", () -> x.putExp(9, 0));
        Due.argument("throws", () -> x.putExp(0, 161));
        x.growth(0, 1, true);
        x.productWithin(0, 0, 0);
        x.against(0, 0, 1);
        x.lessWithin(0, 0);
        Due.is("one that threw is none", x.house(0), 1);
        Due.is("what is asked is no act", x.house(1), 1);
        x.sort();
        x.swap(0, 0);
        x.choose(0, 0, true, 0);
        x.copy(0, 0);
        x.negate(0, 0);
        x.add(0, 0, 0);
        Due.is("six acts more", x.house(0), 7);
        x.knock();
        x.isSound();
        x.digest();
        Due.is("knock is no act", x.house(0), 7);
        Due.is("knock is counted", x.house(2), 1);
        Due.is("nothing is refused", x.house(1), 1);
        everyRefusalCounts();
    }

    private static void everyRefusalCounts() {
        Steadygrowth x = new Steadygrowth();
        x.putExp(1, 0);
        Due.is("exp", x.exp(1, 0), -9);
        Due.is("expm1", x.expm1(1, 0), -9);
        Due.is("log1p", x.log1p(1, 0), -9);
        Due.is("negate", x.negate(1, 0), -9);
        Due.is("add", x.add(1, 0, 0), -9);
        Due.is("times", x.times(1, 0, 0), -9);
        Due.is("lessOne", x.lessOne(1, 0), -9);
        Due.is("plusOne", x.plusOne(1, 0), -9);
        Due.is("eight refused", x.house(1), 8);
        Due.is("one done", x.house(0), 1);
    }

    private static void promise49Knock() {
        Steadygrowth x = new Steadygrowth();
        for (int i = 1; i <= 500; i++) {
            Due.is("knock", x.knock(), i);
        }
        Due.is("house of knocks", x.house(2), 500);
    }

    private static void promise50IsSound() {
        Due.is("a new one is sound", new Steadygrowth().isSound(), true);
        List<Answers> all = Answers.most();
        long at = 3;
        for (int i = 0; i < 3000; i++) {
            Steadygrowth x = new Steadygrowth();
            for (int cell = 0; cell < 8; cell++) {
                at = at * 6364136223846793005L + 1442695040888963407L;
                all.get((int) ((at >>> 33) % all.size())).putInto(x, cell < 6 ? cell : 0);
            }
            Due.is("isSound", x.isSound(), true);
        }
    }

    private static void promise51Digest() {
        Steadygrowth x = new Steadygrowth();
        Due.is("digest of a new one", x.digest(), new Model().digest());
        digestChanges("putEighths", x, x.putEighths(0, 1));
        digestChanges("putExp", x, x.putExp(1, 1));
        digestChanges("times", x, x.times(1, 1, 2));
        digestChanges("times refused", x, x.times(0, 1, 3) == -9 ? 1 : 0);
        digestChanges("knock", x, x.knock());
        long was = x.digest();
        Due.is("digest again", x.digest(), was);
        Due.is("digest by its own calls", was, digestOf(x));
    }

    private static long last = 0;

    private static void digestChanges(String what, Steadygrowth x, int done) {
        Due.is(what, done, 1);
        Due.isTrue("digest after " + what + " is another one", x.digest() != last);
        last = x.digest();
        Due.is("digest after " + what, last, digestOf(x));
    }

    private static long digestOf(Steadygrowth x) {
        long d = 7921;
        for (int v : Told.parts(x)) {
            d = d * 31 + v;
        }
        return d;
    }

    private static void wrongArguments() {
        Steadygrowth x = new Steadygrowth();
        for (int wrong : new int[] {8, -1, Integer.MAX_VALUE, Integer.MIN_VALUE}) {
            Due.index("first", () -> x.first(wrong, 0));
            Due.index("rank", () -> x.rank(wrong));
            Due.index("find", () -> x.find(wrong, true));
            Due.index("find", () -> x.find(wrong, false));
        }
        for (int wrong : new int[] {0, 4, -1, Integer.MAX_VALUE, Integer.MIN_VALUE}) {
            Due.argument("first", () -> x.first(0, wrong));
        }
        for (int wrong : new int[] {10, -1, Integer.MAX_VALUE, Integer.MIN_VALUE}) {
            Due.argument("count", () -> x.count(wrong));
        }
        for (int wrong : new int[] {3, -1, Integer.MAX_VALUE, Integer.MIN_VALUE}) {
            Due.argument("house", () -> x.house(wrong));
        }
        Due.is("nothing changed", x.digest(), new Steadygrowth().digest());
    }
}
