import java.util.ArrayList;
import java.util.List;

/** The ANSWERS of the document, and how they come to a cell by the calls of the face alone. */
record Answers(int kind, int first, int second) {
    static final int ARGUMENT = 0;
    static final int EXP = 1;
    static final int EXPM1 = 2;
    static final int LOG1P = 3;
    static final int PRODUCT = 4;
    static final int LESS = 5;
    static final int MORE = 6;
    static final int BACK = 7;
    static final int THERE = 8;
    static final int WHOLE = 9;

    static Answers of(int kind, int first) {
        return new Answers(kind, first, 0);
    }

    static boolean exists(int kind, int k) {
        if (k < -160 || k > 160) {
            return false;
        }
        switch (kind) {
            case ARGUMENT:
            case EXP:
            case EXPM1:
                return true;
            case LOG1P:
            case THERE:
            case WHOLE:
                return k >= -7;
            case LESS:
                return k <= -8 || k >= 6;
            case MORE:
            case BACK:
                return k >= -8;
            default:
                return false;
        }
    }

    /** All but the PRODUCTS. */
    static List<Answers> single() {
        List<Answers> found = new ArrayList<>();
        for (int kind = 0; kind < 10; kind++) {
            for (int k = -160; k <= 160; k++) {
                if (exists(kind, k)) {
                    found.add(of(kind, k));
                }
            }
        }
        return found;
    }

    static List<Answers> products(int step) {
        List<Answers> found = new ArrayList<>();
        int passed = 0;
        for (int a = -160; a <= 160; a++) {
            for (int b = a; b <= 160; b++) {
                boolean isNear = Math.abs(a) <= 3 || a + b == 0 && b < 20;
                if (a + b >= -160 && a + b <= 160 && (isNear || passed++ % step == 0)) {
                    found.add(new Answers(PRODUCT, a, b));
                }
            }
        }
        return found;
    }

    static List<Answers> most() {
        List<Answers> found = single();
        found.addAll(products(41));
        return found;
    }

    /** A new object with these in its first cells. */
    static Steadygrowth with(Answers... answers) {
        Steadygrowth x = new Steadygrowth();
        for (int i = 0; i < answers.length; i++) {
            answers[i].putInto(x, i);
        }
        return x;
    }

    /** Takes at most three calls, which all do something; cells 6 and 7 are used, too. */
    void putInto(Steadygrowth x, int cell) {
        switch (kind) {
            case ARGUMENT -> x.putEighths(cell, first);
            case EXP -> x.putExp(cell, first);
            case EXPM1 -> x.putExpm1(cell, first);
            case LOG1P -> x.putLog1p(cell, first);
            case PRODUCT -> {
                x.putExp(7, first);
                x.putExp(6, second);
                x.times(6, 7, cell);
            }
            case LESS -> {
                x.putExp(7, first);
                x.lessOne(7, cell);
            }
            case MORE -> {
                x.putExpm1(7, first);
                x.plusOne(7, cell);
            }
            case BACK -> {
                x.putExpm1(7, first);
                x.log1p(7, cell);
            }
            case THERE -> {
                x.putLog1p(7, first);
                x.expm1(7, cell);
            }
            default -> {
                x.putLog1p(7, first);
                x.exp(7, cell);
            }
        }
    }
}
