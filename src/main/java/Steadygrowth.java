import java.util.Arrays;

/**
 * Eight cells with answers of exp, expm1 and log1p at the eighths from -20 to 20.
 * The words in capitals in the comments are those of the document.
 */
public final class Steadygrowth {
    private static final int NONE = -2147483648;
    private static final int NOT_DONE = -9;

    private static final int ARGUMENT = 0;
    private static final int EXP = 1;
    private static final int EXPM1 = 2;
    private static final int LOG1P = 3;
    private static final int PRODUCT = 4;
    private static final int LESS = 5;
    private static final int MORE = 6;
    private static final int BACK = 7;
    private static final int THERE = 8;
    private static final int WHOLE = 9;
    private static final int KINDS = 10;

    private static final int CELLS = 8;
    private static final int LEAST = -160;
    private static final int MOST = 160;
    private static final int LEAST_LOG = -7;
    private static final int LEAST_BACK = -8;
    private static final int MOST_STEPS = 64;
    /** How many first digits of a CLEAR ANSWER are told. */
    private static final int DIGITS = 45;
    private static final int HEAD_DIGITS = 31;
    private static final int MOST_OVER = 1000000000;
    private static final int MOST_BELOW = 32;
    private static final int MOST_NEAREST = 1000000000;

    private final Reckoner reckoner;
    private final Answer[] cells;
    /** What the cells had before a sort. */
    private final Answer[] before;
    /** Stands for one ANSWER after the other where first() looks for one. */
    private final Answer probe;
    private int actsDone;
    private int actsRefused;
    private int knocks;

    public Steadygrowth() {
        reckoner = new Reckoner();
        cells = new Answer[CELLS];
        before = new Answer[CELLS];
        for (int i = 0; i < CELLS; i++) {
            cells[i] = new Answer();
            before[i] = cells[i];
        }
        probe = new Answer();
    }

    // ---- acts: what comes to a cell

    public int putEighths(int cell, int eighths) throws IndexOutOfBoundsException, IllegalArgumentException {
        needCell(cell);
        needBetween(eighths, LEAST, MOST);
        return place(cell, ARGUMENT, eighths, 0);
    }

    public int putExp(int cell, int eighths) throws IndexOutOfBoundsException, IllegalArgumentException {
        needCell(cell);
        needBetween(eighths, LEAST, MOST);
        return place(cell, EXP, eighths, 0);
    }

    public int putExpm1(int cell, int eighths) throws IndexOutOfBoundsException, IllegalArgumentException {
        needCell(cell);
        needBetween(eighths, LEAST, MOST);
        return place(cell, EXPM1, eighths, 0);
    }

    public int putLog1p(int cell, int eighths) throws IndexOutOfBoundsException, IllegalArgumentException {
        needCell(cell);
        needBetween(eighths, LEAST_LOG, MOST);
        return place(cell, LOG1P, eighths, 0);
    }

    public int exp(int from, int into) throws IndexOutOfBoundsException {
        needCell(from);
        needCell(into);
        Answer taken = cells[from];
        if (taken.kind == ARGUMENT) {
            return place(into, EXP, taken.first, 0);
        }
        if (taken.kind == LOG1P) {
            return place(into, WHOLE, taken.first, 0);
        }
        return refuse();
    }

    public int expm1(int from, int into) throws IndexOutOfBoundsException {
        needCell(from);
        needCell(into);
        Answer taken = cells[from];
        if (taken.kind == ARGUMENT) {
            return place(into, EXPM1, taken.first, 0);
        }
        if (taken.kind == LOG1P) {
            return place(into, THERE, taken.first, 0);
        }
        return refuse();
    }

    public int log1p(int from, int into) throws IndexOutOfBoundsException {
        needCell(from);
        needCell(into);
        Answer taken = cells[from];
        if (taken.kind == ARGUMENT && taken.first >= LEAST_LOG) {
            return place(into, LOG1P, taken.first, 0);
        }
        if (taken.kind == EXPM1 && taken.first >= LEAST_BACK) {
            return place(into, BACK, taken.first, 0);
        }
        return refuse();
    }

    public int negate(int from, int into) throws IndexOutOfBoundsException {
        needCell(from);
        needCell(into);
        Answer taken = cells[from];
        if (taken.kind != ARGUMENT) {
            return refuse();
        }
        return place(into, ARGUMENT, -taken.first, 0);
    }

    public int add(int one, int other, int into) throws IndexOutOfBoundsException {
        needCell(one);
        needCell(other);
        needCell(into);
        int sum = cells[one].first + cells[other].first;
        if (!areBoth(ARGUMENT, one, other) || !isInSet(sum)) {
            return refuse();
        }
        return place(into, ARGUMENT, sum, 0);
    }

    public int times(int one, int other, int into) throws IndexOutOfBoundsException {
        needCell(one);
        needCell(other);
        needCell(into);
        int a = cells[one].first;
        int b = cells[other].first;
        if (!areBoth(EXP, one, other) || !isInSet(a + b)) {
            return refuse();
        }
        return place(into, PRODUCT, Math.min(a, b), Math.max(a, b));
    }

    public int lessOne(int from, int into) throws IndexOutOfBoundsException {
        needCell(from);
        needCell(into);
        Answer taken = cells[from];
        boolean isFar = taken.first <= -8 || taken.first >= 6;
        if (taken.kind != EXP || !isFar) {
            return refuse();
        }
        return place(into, LESS, taken.first, 0);
    }

    public int plusOne(int from, int into) throws IndexOutOfBoundsException {
        needCell(from);
        needCell(into);
        Answer taken = cells[from];
        if (taken.kind != EXPM1 || taken.first < LEAST_BACK) {
            return refuse();
        }
        return place(into, MORE, taken.first, 0);
    }

    public int copy(int from, int into) throws IndexOutOfBoundsException {
        needCell(from);
        needCell(into);
        return placeLike(cells[from], into);
    }

    public int swap(int one, int other) throws IndexOutOfBoundsException {
        needCell(one);
        needCell(other);
        actsDone++;
        Answer moved = cells[one];
        cells[one] = cells[other];
        cells[other] = moved;
        return cells[one].isOneWith(moved) ? 0 : 1;
    }

    public int choose(int one, int other, boolean isGreater, int into) throws IndexOutOfBoundsException {
        needCell(one);
        needCell(other);
        needCell(into);
        int standing = cells[one].standingTo(cells[other]);
        boolean isOther = isGreater ? standing < 0 : standing > 0;
        return placeLike(isOther ? cells[other] : cells[one], into);
    }

    public int sort() {
        actsDone++;
        for (int i = 0; i < CELLS; i++) {
            before[i] = cells[i];
        }
        for (int i = 1; i < CELLS; i++) {
            moveDown(i);
        }
        int changed = 0;
        for (int i = 0; i < CELLS; i++) {
            if (!cells[i].isOneWith(before[i])) {
                changed++;
            }
        }
        return changed;
    }

    // ---- what an ANSWER is

    public int kind(int cell) throws IndexOutOfBoundsException {
        needCell(cell);
        return cells[cell].kind;
    }

    public int eighths(int cell, int which) throws IndexOutOfBoundsException, IllegalArgumentException {
        needCell(cell);
        needBetween(which, 0, 1);
        return which == 0 ? cells[cell].first : cells[cell].second;
    }

    public boolean isExact(int cell) throws IndexOutOfBoundsException {
        needCell(cell);
        return cells[cell].hasExactDigits();
    }

    public int upper(int cell) throws IndexOutOfBoundsException {
        needCell(cell);
        Answer asked = cells[cell];
        return asked.hasExactDigits() ? (int) (asked.allDigits() >>> 32) : NONE;
    }

    public int lower(int cell) throws IndexOutOfBoundsException {
        needCell(cell);
        Answer asked = cells[cell];
        return asked.hasExactDigits() ? (int) asked.allDigits() : NONE;
    }

    public int sign(int cell) throws IndexOutOfBoundsException {
        needCell(cell);
        return cells[cell].side;
    }

    public int lead(int cell) throws IndexOutOfBoundsException {
        needCell(cell);
        Answer asked = cells[cell];
        return asked.hasClearDigits() && asked.side != 0 ? asked.lead : NONE;
    }

    public int head(int cell, int many) throws IndexOutOfBoundsException, IllegalArgumentException {
        needCell(cell);
        needBetween(many, 1, HEAD_DIGITS);
        Answer asked = cells[cell];
        return asked.hasClearDigits() ? (int) (asked.firstDigits >>> (DIGITS - many)) : NONE;
    }

    public int tail(int cell) throws IndexOutOfBoundsException {
        needCell(cell);
        Answer asked = cells[cell];
        long behindHead = asked.firstDigits & ((1L << (DIGITS - HEAD_DIGITS)) - 1);
        return asked.hasClearDigits() ? (int) behindHead : NONE;
    }

    public String digits(int cell, int many) throws IndexOutOfBoundsException, IllegalArgumentException {
        needCell(cell);
        needBetween(many, 1, DIGITS);
        Answer asked = cells[cell];
        if (!asked.hasClearDigits()) {
            return "";
        }
        return asked.side == 0 ? "0" : asked.digitText(many);
    }

    public int floorOf(int cell, int scale) throws IndexOutOfBoundsException, IllegalArgumentException {
        needCell(cell);
        needBetween(scale, 0, 40);
        Answer asked = cells[cell];
        return asked.hasClearDigits() ? asked.scaledFloor(scale) : NONE;
    }

    public int nearest(int cell) throws IndexOutOfBoundsException {
        needCell(cell);
        return cells[cell].nearestEighth();
    }

    public int back(int cell) throws IndexOutOfBoundsException {
        needCell(cell);
        Answer asked = cells[cell];
        return asked.kind == EXPM1 ? asked.first : NONE;
    }

    // ---- how two stand

    public int against(int cell, int over, int below) throws IndexOutOfBoundsException, IllegalArgumentException {
        needCell(cell);
        needBetween(over, -MOST_OVER, MOST_OVER);
        needBetween(below, 1, MOST_BELOW);
        Answer asked = cells[cell];
        return asked.hasClearDigits() ? asked.standingToFraction(over, below, reckoner) : NOT_DONE;
    }

    public int order(int one, int other) throws IndexOutOfBoundsException {
        needCell(one);
        needCell(other);
        return cells[one].standingTo(cells[other]);
    }

    public boolean isLevel(int one, int other) throws IndexOutOfBoundsException {
        return order(one, other) == 0;
    }

    public int same(int one, int other) throws IndexOutOfBoundsException {
        needCell(one);
        needCell(other);
        return cells[one].likenessTo(cells[other]);
    }

    public int productWithin(int one, int other, int third) throws IndexOutOfBoundsException {
        needCell(one);
        needCell(other);
        needCell(third);
        if (!areBoth(EXP, one, other) || cells[third].kind != EXP) {
            return NOT_DONE;
        }
        return toldAs(cells[one].first + cells[other].first == cells[third].first);
    }

    public int inverseWithin(int one, int other) throws IndexOutOfBoundsException {
        needCell(one);
        needCell(other);
        if (!areBoth(EXP, one, other)) {
            return NOT_DONE;
        }
        return toldAs(cells[one].first + cells[other].first == 0);
    }

    public int lessWithin(int one, int other) throws IndexOutOfBoundsException {
        needCell(one);
        needCell(other);
        if (cells[one].kind != EXP || cells[other].kind != EXPM1) {
            return NOT_DONE;
        }
        return toldAs(cells[one].first == cells[other].first);
    }

    public int wayWithin(int cell, int eighths) throws IndexOutOfBoundsException, IllegalArgumentException {
        needCell(cell);
        needBetween(eighths, LEAST, MOST + 8);
        Answer asked = cells[cell];
        return asked.isWay() ? toldAs(asked.wayEighths() == eighths) : NOT_DONE;
    }

    // ---- growth

    public int growth(int cell, int steps, boolean isAbove) throws IndexOutOfBoundsException, IllegalArgumentException {
        needCell(cell);
        needBetween(steps, 1, MOST_STEPS);
        return growthStanding(cells[cell].first, steps, isAbove, cells[cell]);
    }

    public int growthAgainst(int eighths, int steps, boolean isAbove, int cell)
            throws IndexOutOfBoundsException, IllegalArgumentException {
        needCell(cell);
        needBetween(eighths, LEAST, MOST);
        needBetween(steps, 1, MOST_STEPS);
        return growthStanding(eighths, steps, isAbove, cells[cell]);
    }

    public int growthOrder(int eighths, int steps, int more, boolean isAbove) throws IllegalArgumentException {
        needBetween(eighths, LEAST, MOST);
        needBetween(steps, 1, MOST_STEPS);
        needBetween(more, 1, MOST_STEPS);
        if (!hasGrowth(eighths, steps) || !hasGrowth(eighths, more)) {
            return NOT_DONE;
        }
        if (eighths == 0) {
            return 0;
        }
        // from below it rises with the steps, from above it falls
        return isAbove ? Integer.compare(more, steps) : Integer.compare(steps, more);
    }

    public int growthNear(int cell, int steps) throws IndexOutOfBoundsException, IllegalArgumentException {
        needCell(cell);
        needBetween(steps, 1, MOST_STEPS);
        Answer asked = cells[cell];
        if (asked.kind != EXP || !hasGrowth(asked.first, steps)) {
            return NOT_DONE;
        }
        return toldAs(reckoner.isGrowthNear(asked.first, steps, asked.size));
    }

    // ---- all cells

    public int first(int cell, int kind) throws IndexOutOfBoundsException, IllegalArgumentException {
        needCell(cell);
        needBetween(kind, EXP, LOG1P);
        int low = kind == LOG1P ? LEAST_LOG : LEAST;
        int high = MOST + 1;
        // each KIND rises with FIRST, so halving finds the place
        for (int round = 0; round < 10 && low < high; round++) {
            int middle = low + (high - low) / 2;
            probe.become(kind, middle, 0, reckoner);
            if (probe.standingTo(cells[cell]) < 0) {
                low = middle + 1;
            } else {
                high = middle;
            }
        }
        return low;
    }

    public int rank(int cell) throws IndexOutOfBoundsException {
        needCell(cell);
        int below = 0;
        for (int i = 0; i < CELLS; i++) {
            if (cells[i].standingTo(cells[cell]) < 0) {
                below++;
            }
        }
        return below;
    }

    public int find(int cell, boolean isLast) throws IndexOutOfBoundsException {
        needCell(cell);
        int found = cell;
        for (int i = 0; i < CELLS; i++) {
            boolean isFurther = isLast ? i > found : i < found;
            if (isFurther && cells[i].standingTo(cells[cell]) == 0) {
                found = i;
            }
        }
        return found;
    }

    public int end(boolean isGreatest) {
        int found = 0;
        for (int i = 1; i < CELLS; i++) {
            int standing = cells[i].standingTo(cells[found]);
            if (isGreatest ? standing > 0 : standing < 0) {
                found = i;
            }
        }
        return found;
    }

    public int count(int kind) throws IllegalArgumentException {
        needBetween(kind, 0, KINDS - 1);
        int counted = 0;
        for (int i = 0; i < CELLS; i++) {
            if (cells[i].kind == kind) {
                counted++;
            }
        }
        return counted;
    }

    // ---- the whole

    public int house(int what) throws IllegalArgumentException {
        needBetween(what, 0, 2);
        if (what == 0) {
            return actsDone;
        }
        return what == 1 ? actsRefused : knocks;
    }

    public int knock() {
        knocks++;
        return knocks;
    }

    /**
     * Looks at what could fail in what the cells have. The rest holds by how ANSWERS are made:
     * PRODUCT, MORE and EXP take their number from one sum, as LESS and EXPM1 do, and the
     * nearness of section 4 is told by FIRST.
     */
    public boolean isSound() {
        for (int i = 0; i < CELLS; i++) {
            if (!isSoundAlone(i)) {
                return false;
            }
            for (int j = 0; j < CELLS; j++) {
                if (order(i, j) != -order(j, i) || !isSoundChain(i, j)) {
                    return false;
                }
            }
        }
        return true;
    }

    public long digest() {
        long d = 7921;
        for (int i = 0; i < CELLS; i++) {
            d = digestCell(d, i);
        }
        for (int i = 0; i < CELLS; i++) {
            for (int j = i + 1; j < CELLS; j++) {
                d = fold(d, order(i, j));
                d = fold(d, toldAs(isLevel(i, j)));
                d = fold(d, same(i, j));
            }
        }
        d = fold(d, end(true));
        d = fold(d, end(false));
        for (int kind = 0; kind < KINDS; kind++) {
            d = fold(d, count(kind));
        }
        for (int what = 0; what < 3; what++) {
            d = fold(d, house(what));
        }
        return fold(d, toldAs(isSound()));
    }

    // ---- inside

    private static void needCell(int cell) {
        if (cell < 0 || cell >= CELLS) {
            throw new IndexOutOfBoundsException("a cell is 0 to 7");
        }
    }

    private static void needBetween(int value, int least, int most) {
        if (value < least || value > most) {
            throw new IllegalArgumentException("an argument is out of its bounds");
        }
    }

    private static boolean isInSet(int eighths) {
        return eighths >= LEAST && eighths <= MOST;
    }

    private static int toldAs(boolean isSo) {
        return isSo ? 1 : 0;
    }

    private static long fold(long d, long v) {
        return d * 31 + v;
    }

    private boolean areBoth(int kind, int one, int other) {
        return cells[one].kind == kind && cells[other].kind == kind;
    }

    private int refuse() {
        actsRefused++;
        return NOT_DONE;
    }

    private int place(int into, int kind, int first, int second) {
        actsDone++;
        Answer changed = cells[into];
        if (changed.isMadeOf(kind, first, second)) {
            return 0;
        }
        changed.become(kind, first, second, reckoner);
        return 1;
    }

    private int placeLike(Answer taken, int into) {
        actsDone++;
        Answer changed = cells[into];
        if (changed.isOneWith(taken)) {
            return 0;
        }
        changed.becomeLike(taken);
        return 1;
    }

    /** Moves what a cell has below all that it is BELOW of; the cells under it stand in order. */
    private void moveDown(int cell) {
        Answer moved = cells[cell];
        int at = cell;
        for (; at > 0 && moved.standingTo(cells[at - 1]) < 0; at--) {
            cells[at] = cells[at - 1];
        }
        cells[at] = moved;
    }

    private static boolean hasGrowth(int eighths, int steps) {
        return 8 * steps > Math.abs(eighths);
    }

    private int growthStanding(int eighths, int steps, boolean isAbove, Answer asked) {
        if (asked.kind != EXP || !hasGrowth(eighths, steps)) {
            return NOT_DONE;
        }
        return reckoner.growthStanding(eighths, steps, isAbove, asked.size);
    }

    private boolean isSoundAlone(int cell) {
        Answer asked = cells[cell];
        if (asked.kind == EXPM1) {
            return back(cell) == asked.first;
        }
        return !asked.isWay() || asked.nearestEighth() == asked.wayEighths();
    }

    /** Whether what is BELOW a first one that is BELOW a second one is BELOW that, too. */
    private boolean isSoundChain(int first, int second) {
        if (order(first, second) >= 0) {
            return true;
        }
        for (int i = 0; i < CELLS; i++) {
            if (order(i, first) < 0 && order(i, second) >= 0) {
                return false;
            }
        }
        return true;
    }

    private long digestCell(long start, int cell) {
        long d = fold(start, kind(cell));
        d = fold(d, eighths(cell, 0));
        d = fold(d, eighths(cell, 1));
        d = fold(d, upper(cell));
        d = fold(d, lower(cell));
        d = fold(d, sign(cell));
        d = fold(d, lead(cell));
        d = fold(d, head(cell, HEAD_DIGITS));
        d = fold(d, tail(cell));
        d = fold(d, nearest(cell));
        d = fold(d, back(cell));
        d = fold(d, rank(cell));
        d = fold(d, find(cell, false));
        return fold(d, find(cell, true));
    }

    /** A KIND with FIRST and SECOND, and what is reckoned of its VALUE when it is made. */
    private static final class Answer {
        private int kind;
        private int first;
        private int second;
        private final Fixed size;
        /** -1, 0 or 1: whether the VALUE is below, at or above 0. */
        private int side;
        /** Both 0 for the VALUE 0. */
        private int lead;
        private long firstDigits;

        /** The ARGUMENT 0. */
        Answer() {
            size = new Fixed();
        }

        boolean isMadeOf(int aKind, int aFirst, int aSecond) {
            return kind == aKind && first == aFirst && second == aSecond;
        }

        boolean isOneWith(Answer other) {
            return isMadeOf(other.kind, other.first, other.second);
        }

        void become(int aKind, int aFirst, int aSecond, Reckoner reckoner) {
            kind = aKind;
            first = aFirst;
            second = aSecond;
            measure(reckoner);
            lead = size.leadingPower();
            firstDigits = size.digitsFrom(lead, DIGITS);
        }

        void becomeLike(Answer other) {
            kind = other.kind;
            first = other.first;
            second = other.second;
            size.setTo(other.size);
            side = other.side;
            lead = other.lead;
            firstDigits = other.firstDigits;
        }

        private void measure(Reckoner reckoner) {
            if (isPower()) {
                side = 1;
                reckoner.powerInto(first + second, size);
            } else if (isPowerLessOne()) {
                side = Integer.signum(first);
                reckoner.powerLessOneInto(first, size);
            } else if (kind == LOG1P) {
                side = Integer.signum(first);
                reckoner.logInto(8 + first, size);
            } else {
                int value = wayEighths();
                side = Integer.signum(value);
                size.setWhole(Math.abs(value));
                size.divideBy(8);
            }
        }

        boolean isPower() {
            return kind == EXP || kind == PRODUCT || kind == MORE;
        }

        boolean isPowerLessOne() {
            return kind == EXPM1 || kind == LESS;
        }

        boolean isWay() {
            return kind == BACK || kind == THERE || kind == WHOLE;
        }

        /** The VALUE of an ARGUMENT, BACK, THERE or WHOLE, as an EIGHTH. */
        int wayEighths() {
            return kind == WHOLE ? 8 + first : first;
        }

        private boolean isRoundedBack() {
            return kind == BACK && (first == -7 || first == -3);
        }

        boolean hasExactDigits() {
            switch (kind) {
                case ARGUMENT:
                    return true;
                case BACK:
                    return !isRoundedBack();
                case LESS:
                    return false;
                default:
                    return first == 0 && second == 0;
            }
        }

        boolean hasClearDigits() {
            switch (kind) {
                case EXP:
                case EXPM1:
                case LOG1P:
                case LESS:
                case MORE:
                    return true;
                case PRODUCT:
                    return first + second != 0 || hasExactDigits();
                default:
                    return hasExactDigits();
            }
        }

        /** The 64 digits of an EXACT one, whose VALUE has far fewer than DIGITS digits. */
        long allDigits() {
            if (side == 0) {
                return 0;
            }
            long behindLead = firstDigits & ((1L << (DIGITS - 1)) - 1);
            long unsigned = ((long) (lead + 1023) << 52) | (behindLead << (53 - DIGITS));
            return side < 0 ? unsigned | (1L << 63) : unsigned;
        }

        String digitText(int many) {
            StringBuilder text = new StringBuilder();
            if (side < 0) {
                text.append('-');
            }
            for (int i = 1; i <= many; i++) {
                text.append(((firstDigits >>> (DIGITS - i)) & 1) == 1 ? '1' : '0');
            }
            text.append(' ');
            text.append(lead);
            return text.toString();
        }

        int scaledFloor(int scale) {
            int scaledLead = lead + scale;
            if (side == 0) {
                return 0;
            }
            if (scaledLead >= 30) {
                return NONE;
            }
            if (scaledLead < 0) {
                return side < 0 ? -1 : 0;
            }
            int behindPoint = DIGITS - 1 - scaledLead;
            int whole = (int) (firstDigits >>> behindPoint);
            if (side > 0) {
                return whole;
            }
            // what is not EXACT is no fraction, so something is always cut off
            boolean isWhole = hasExactDigits() && (firstDigits & ((1L << behindPoint) - 1)) == 0;
            return isWhole ? -whole : -whole - 1;
        }

        int nearestEighth() {
            // no VALUE is half way between two EIGHTHS, so the SIZE may be rounded
            long found = (size.sixteenths() + 1) / 2;
            return found > MOST_NEAREST ? NONE : side * (int) found;
        }

        int standingTo(Answer other) {
            if (side != other.side) {
                return side < other.side ? -1 : 1;
            }
            return side * size.standingTo(other.size);
        }

        int standingToFraction(int over, int below, Reckoner reckoner) {
            int otherSide = Integer.signum(over);
            if (side != otherSide) {
                return side < otherSide ? -1 : 1;
            }
            return side * reckoner.fractionStanding(size, Math.abs(over), below);
        }

        int likenessTo(Answer other) {
            if (standingTo(other) != 0) {
                return 0;
            }
            if (isOneWith(other)) {
                return 1;
            }
            if (isPlainPower() && other.isPlainPower()) {
                boolean isJustOneMore = (kind == MORE) != (other.kind == MORE);
                return isJustOneMore && isRoundedMore(first + second) ? 0 : 1;
            }
            if (isPowerLessOne() && other.isPowerLessOne()) {
                return isRoundedLess(first) ? 0 : 1;
            }
            if (hasExactDigits()) {
                return other.hasExactDigits() ? 1 : other.likenessToExact();
            }
            return other.hasExactDigits() ? likenessToExact() : NOT_DONE;
        }

        /** LIKENESS of one that is not EXACT to a LEVEL one that is. */
        private int likenessToExact() {
            return isRoundedBack() ? 0 : NOT_DONE;
        }

        private boolean isPlainPower() {
            return kind == EXP || kind == MORE || kind == PRODUCT && (first == 0 || second == 0);
        }

        private static boolean isRoundedMore(int eighths) {
            return eighths == -7 || eighths == -3 || eighths == 8 || eighths == 12 || eighths == 87;
        }

        private static boolean isRoundedLess(int eighths) {
            return eighths == -20 || eighths == 7 || eighths == 8 || eighths == 12
                    || eighths == 61 || eighths == 87;
        }
    }

    /** Reckons sums without end and powers, in rows that are made once. */
    private static final class Reckoner {
        /** Above every POWER of the SET, and far enough below what a Fixed holds. */
        private static final long BEYOND = 1L << 31;

        private final Fixed one = new Fixed();
        private final Fixed logOfTwo = new Fixed();
        private final Fixed term = new Fixed();
        private final Fixed even = new Fixed();
        private final Fixed odd = new Fixed();
        private final Fixed spare = new Fixed();

        Reckoner() {
            one.setWhole(1);
            logOfRatioInto(2, 1, logOfTwo);
        }

        /**
         * POWER of eighths / 8. The terms of even and of odd number are summed apart: a number
         * below 0 has their difference. What is cut off is together below 2^25 of the last
         * digit, 2^-128, and a POWER is above 2^-29: the error is below 2^-74 of it.
         */
        void powerInto(int eighths, Fixed into) {
            int x = Math.abs(eighths);
            even.setWhole(0);
            odd.setWhole(0);
            term.setWhole(1);
            for (int n = 0; n < 1000 && !term.isZero(); n++) {
                Fixed sum = n % 2 == 0 ? even : odd;
                sum.increaseBy(term);
                term.multiplyBy(x);
                term.divideBy(8 * (n + 1));
            }
            if (eighths < 0) {
                into.setDifference(even, odd);
            } else {
                into.setTo(even);
                into.increaseBy(odd);
            }
        }

        /** The SIZE of POWER of eighths / 8, less 1. */
        void powerLessOneInto(int eighths, Fixed into) {
            powerInto(eighths, into);
            if (eighths < 0) {
                into.setDifference(one, into);
            } else {
                into.setDifference(into, one);
            }
        }

        /**
         * The SIZE of LOG of eighths / 8. LOG of 2 is taken out as often as may be, for the
         * sum of section 6 comes to its end soon where z is small.
         */
        void logInto(int eighths, Fixed into) {
            int near = 1;
            int twos = -3;
            for (int i = 0; i < 8 && 2 * near <= eighths; i++) {
                near = 2 * near;
                twos++;
            }
            logOfRatioInto(eighths, near, into);
            spare.setTo(logOfTwo);
            spare.multiplyBy(Math.abs(twos));
            if (twos < 0) {
                into.setDifference(spare, into);
            } else {
                into.increaseBy(spare);
            }
        }

        /** LOG of a ratio of 1 to 2. */
        private void logOfRatioInto(int over, int below, Fixed into) {
            int difference = over - below;
            int sum = over + below;
            into.setWhole(0);
            term.setWhole(difference);
            term.divideBy(sum);
            for (int n = 1; n < 1000 && !term.isZero(); n += 2) {
                spare.setTo(term);
                spare.divideBy(n);
                into.increaseBy(spare);
                term.multiplyBy(difference * difference);
                term.divideBy(sum * sum);
            }
            into.multiplyBy(2);
        }

        /** GROWTH, or a number BEYOND where it goes there. */
        private void growthInto(int eighths, int steps, boolean isAbove, Fixed into) {
            int over = isAbove ? 8 * steps : 8 * steps + eighths;
            int below = isAbove ? 8 * steps - eighths : 8 * steps;
            into.setWhole(1);
            for (int i = 0; i < steps && into.wholePart() < BEYOND; i++) {
                into.multiplyBy(over);
                into.divideBy(below);
            }
        }

        int growthStanding(int eighths, int steps, boolean isAbove, Fixed power) {
            growthInto(eighths, steps, isAbove, spare);
            return spare.standingTo(power);
        }

        /** Whether GROWTH from below is at least power * (64 steps - eighths eighths) / (64 steps). */
        boolean isGrowthNear(int eighths, int steps, Fixed power) {
            int share = 64 * steps - eighths * eighths;
            if (share <= 0) {
                return true;
            }
            growthInto(eighths, steps, false, spare);
            spare.multiplyBy(64 * steps);
            term.setTo(power);
            term.multiplyBy(share);
            return spare.standingTo(term) >= 0;
        }

        /** How a number stands to over / below. */
        int fractionStanding(Fixed number, int over, int below) {
            spare.setTo(number);
            spare.multiplyBy(below);
            term.setWhole(over);
            return spare.standingTo(term);
        }
    }

    /**
     * A number from 0 on: its whole part, which has room for some 50 digits, and four parts
     * of 32 digits behind the point.
     */
    private static final class Fixed {
        private static final int PARTS = 5;
        private static final int PART_DIGITS = 32;
        private static final long BASE = 1L << PART_DIGITS;

        private final long[] parts = new long[PARTS];

        void setWhole(long whole) {
            Arrays.fill(parts, 0);
            parts[0] = whole;
        }

        void setTo(Fixed other) {
            System.arraycopy(other.parts, 0, parts, 0, PARTS);
        }

        /** A number less one that is not greater; each of them may be this one. */
        void setDifference(Fixed from, Fixed less) {
            long borrowed = 0;
            for (int i = PARTS - 1; i > 0; i--) {
                long left = from.parts[i] - less.parts[i] - borrowed;
                borrowed = left < 0 ? 1 : 0;
                parts[i] = left + borrowed * BASE;
            }
            parts[0] = from.parts[0] - less.parts[0] - borrowed;
        }

        void increaseBy(Fixed other) {
            long carried = 0;
            for (int i = PARTS - 1; i > 0; i--) {
                long sum = parts[i] + other.parts[i] + carried;
                parts[i] = sum & (BASE - 1);
                carried = sum >>> PART_DIGITS;
            }
            parts[0] += other.parts[0] + carried;
        }

        void multiplyBy(int factor) {
            long carried = 0;
            for (int i = PARTS - 1; i > 0; i--) {
                long product = parts[i] * factor + carried;
                parts[i] = product & (BASE - 1);
                carried = product >>> PART_DIGITS;
            }
            parts[0] = parts[0] * factor + carried;
        }

        /** Rounds down; nothing is done for a divisor below 1. */
        void divideBy(int divisor) {
            if (divisor < 1) {
                return;
            }
            long rest = 0;
            for (int i = 0; i < PARTS; i++) {
                long dividend = rest * BASE + parts[i];
                parts[i] = dividend / divisor;
                rest = dividend % divisor;
            }
        }

        boolean isZero() {
            for (int i = 0; i < PARTS; i++) {
                if (parts[i] != 0) {
                    return false;
                }
            }
            return true;
        }

        long wholePart() {
            return parts[0];
        }

        /** It times 16, rounded down. */
        long sixteenths() {
            return parts[0] * 16 + (parts[1] >>> (PART_DIGITS - 4));
        }

        int standingTo(Fixed other) {
            for (int i = 0; i < PARTS; i++) {
                if (parts[i] != other.parts[i]) {
                    return parts[i] < other.parts[i] ? -1 : 1;
                }
            }
            return 0;
        }

        /** The power of two with which its first digit counts; 0 for 0. */
        int leadingPower() {
            for (int i = 0; i < PARTS; i++) {
                if (parts[i] != 0) {
                    return 63 - Long.numberOfLeadingZeros(parts[i]) - PART_DIGITS * i;
                }
            }
            return 0;
        }

        /** So many digits from that of a power of two on, as a whole number. */
        long digitsFrom(int power, int many) {
            long found = 0;
            for (int i = 0; i < many; i++) {
                found = 2 * found + digitAt(power - i);
            }
            return found;
        }

        private long digitAt(int power) {
            if (power >= 0) {
                return power < 63 ? (parts[0] >>> power) & 1 : 0;
            }
            int part = (PART_DIGITS - 1 - power) / PART_DIGITS;
            return part < PARTS ? (parts[part] >>> (part * PART_DIGITS + power)) & 1 : 0;
        }
    }
}
