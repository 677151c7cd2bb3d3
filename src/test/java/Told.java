import java.util.ArrayList;
import java.util.List;

/** What an object tells of its cells and of itself, by the calls of the face alone. */
final class Told {
    private Told() {
    }

    static void has(String what, Steadygrowth x, int cell, int kind, int first, int second) {
        Due.is(what + " kind", x.kind(cell), kind);
        Due.is(what + " first", x.eighths(cell, 0), first);
        Due.is(what + " second", x.eighths(cell, 1), second);
    }

    static void has(String what, Steadygrowth x, int cell, Answers a) {
        has(what, x, cell, a.kind(), a.first(), a.second());
    }

    /** What the eight cells have, and what is told of their VALUES. */
    static String cells(Steadygrowth x) {
        StringBuilder text = new StringBuilder();
        for (int cell = 0; cell < 8; cell++) {
            text.append(x.kind(cell)).append(' ').append(x.eighths(cell, 0)).append(' ').append(x.eighths(cell, 1));
            text.append(' ').append(x.sign(cell)).append(' ').append(x.nearest(cell));
            text.append(' ').append(x.digits(cell, 45)).append(' ').append(x.rank(cell)).append('\n');
        }
        return text.toString();
    }

    /** All that an act could change. */
    static String all(Steadygrowth x) {
        return cells(x) + x.house(0) + " " + x.house(1) + " " + x.house(2) + " " + x.digest();
    }

    /** What the checksum is made of, in its order. */
    static List<Integer> parts(Steadygrowth x) {
        List<Integer> parts = new ArrayList<>();
        for (int i = 0; i < 8; i++) {
            parts.addAll(List.of(x.kind(i), x.eighths(i, 0), x.eighths(i, 1), x.upper(i), x.lower(i), x.sign(i)));
            parts.addAll(List.of(x.lead(i), x.head(i, 31), x.tail(i), x.nearest(i), x.back(i)));
            parts.addAll(List.of(x.rank(i), x.find(i, false), x.find(i, true)));
        }
        for (int i = 0; i < 8; i++) {
            for (int j = i + 1; j < 8; j++) {
                parts.addAll(List.of(x.order(i, j), x.isLevel(i, j) ? 1 : 0, x.same(i, j)));
            }
        }
        parts.addAll(List.of(x.end(true), x.end(false)));
        for (int kind = 0; kind < 10; kind++) {
            parts.add(x.count(kind));
        }
        parts.addAll(List.of(x.house(0), x.house(1), x.house(2), x.isSound() ? 1 : 0));
        return parts;
    }
}
