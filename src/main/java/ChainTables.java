/**
 * Three-diagonal tables rebuilt from what they sound like. What each call promises stands in
 * ../shared/DOC.md; the words TONES, TEXT, FAULT, MOMENT, WEIGHT, CHAIN, DRAWER, WHOLE TABLE
 * and so on mean here what they mean there.
 */
public final class ChainTables {
    public static final int NONE = -1;

    private static final long NOTHING = Long.MIN_VALUE;
    private static final int EMPTY = -2;
    private static final int TOO_MANY_TONES = -2;
    private static final int NO_CHAIN = -2;
    private static final int BY_ZERO = -2;
    private static final int NOT_SO = -3;

    private static final int MOST_TONES = 4;
    private static final int TONE_BOUND = 6;
    private static final int MOST_ROWS = 5;
    private static final int A_BOUND = 6;
    private static final int C_BOUND = 36;
    private static final int DRAWER_COUNT = 4;
    private static final int MOST_KEPT = 8;
    private static final int MOST_PARTS = 50;
    private static final int MOST_TIMES = 8;
    private static final int MOST_TONES_FOR_ALL = 3;

    private final Tape tape = new Tape();
    private final TextReader reader = new TextReader();
    private final Letters letters = new Letters();
    private final State now = new State();
    private final State[] kept = new State[MOST_KEPT];
    private int keptCount = 0;

    // Rows that calls use again, so that a long run makes no new ones.
    private final ToneNumbers numbers = new ToneNumbers();
    private final ToneTable toneTable = new ToneTable(numbers);
    private final AllTables allTables = new AllTables();
    private final TableWork work = new TableWork();
    private final WholeTable spareTable = new WholeTable();
    private final Tones spareTones = new Tones();
    private final Fraction result = new Fraction();

    public ChainTables() {
    }

    public int feed(int a, int b, int c, int d, int e) {
        if (!tape.hasRoomForInts(5)) {
            return NONE;
        }
        tape.add(a);
        tape.add(b);
        tape.add(c);
        tape.add(d);
        tape.add(e);
        return tape.length;
    }

    public int tones(int n) {
        if (!tape.holdsText(n)) {
            return NONE;
        }
        int fault = reader.scan(tape, n, true);
        tape.clear();
        if (fault != 0) {
            return fault;
        }
        now.tones.take(reader);
        return now.tones.size;
    }

    public int count(int what) {
        if (what == 0) {
            return now.tones.size;
        }
        if (what == 1) {
            return now.filledDrawers();
        }
        if (what == 2) {
            return tape.length;
        }
        if (what == 3) {
            return keptCount;
        }
        if (within(what, 10, 9 + now.tones.size)) {
            return now.tones.outer[what - 10];
        }
        if (within(what, 20, 18 + now.tones.size)) {
            return now.tones.inner[what - 20];
        }
        return Integer.MIN_VALUE;
    }

    // ---- of the tones

    public long polynomial(boolean first, int k) {
        int degree = first ? now.tones.size : now.tones.size - 1;
        if (!hasTones() || !within(k, 0, degree)) {
            return NOTHING;
        }
        numbers.rebuild(now.tones);
        return first ? numbers.upper[k] : numbers.lower[k];
    }

    public long moment(int k) {
        if (!hasTones() || !within(k, 0, ToneNumbers.LAST_MOMENT)) {
            return NOTHING;
        }
        numbers.rebuild(now.tones);
        return numbers.moments[k];
    }

    public long weight(int i, int what) {
        if (!hasTones() || !isTone(i) || !isPart(what)) {
            return NOTHING;
        }
        now.tones.weigh(i, result);
        return result.part(what);
    }

    public long determinant(int k, int s) {
        if (!hasTones() || !within(k, 0, 4) || !within(s, 0, 1)) {
            return NOTHING;
        }
        numbers.rebuild(now.tones);
        return numbers.momentTable(k, s);
    }

    public long entry(boolean first, int i, int what) {
        int last = first ? now.tones.size - 1 : now.tones.size - 2;
        if (!hasTones() || !within(i, 0, last) || !isPart(what)) {
            return NOTHING;
        }
        toneTable.rebuild(now.tones);
        return first ? toneTable.a[i].part(what) : toneTable.c[i].part(what);
    }

    public long ortho(int k, int j, int what) {
        if (!hasTones() || !within(k, 0, now.tones.size) || !within(j, 0, k) || !isPart(what)) {
            return NOTHING;
        }
        toneTable.rebuild(now.tones);
        return toneTable.orthogonal(k)[j].part(what);
    }

    public long fraction(int k, int x, int what) {
        if (!hasTones() || !within(k, 1, now.tones.size) || !within(x, -20, 20) || !isPart(what)) {
            return NOTHING;
        }
        toneTable.rebuild(now.tones);
        return toneTable.cutShort(k, x, result) ? result.part(what) : BY_ZERO;
    }

    public long chain(int kind, int i, int what) {
        if (!hasTones() || !within(kind, 0, 1) || !isTone(i) || !isPart(what)) {
            return NOTHING;
        }
        if (!hasChain()) {
            return NO_CHAIN;
        }
        toneTable.rebuild(now.tones);
        toneTable.hang();
        return kind == 0 ? toneTable.masses[i].part(what) : toneTable.springs[i].part(what);
    }

    public long mass(int what) {
        if (!hasTones() || !isPart(what)) {
            return NOTHING;
        }
        if (!hasChain()) {
            return NO_CHAIN;
        }
        toneTable.rebuild(now.tones);
        toneTable.hang();
        result.set(0, 1);
        for (int i = 0; i < now.tones.size; i++) {
            result.add(toneTable.masses[i]);
        }
        return result.part(what);
    }

    public long weighed(int k, int what) {
        if (!hasTones() || !within(k, 0, ToneNumbers.LAST_MOMENT) || !isPart(what)) {
            return NOTHING;
        }
        now.tones.weighPowers(k, result);
        return result.part(what);
    }

    public long kernel(int x, int what) {
        if (!hasTones() || !within(x, -8, 8) || !isPart(what)) {
            return NOTHING;
        }
        toneTable.rebuild(now.tones);
        toneTable.addSquares(x, result);
        return result.part(what);
    }

    public long apart() {
        return hasTones() ? now.tones.distances() : NOTHING;
    }

    public int letter(int k) {
        if (!hasTones() || k < NONE) {
            return NONE;
        }
        letters.tell(now.tones.outer, now.tones.size, now.tones.inner);
        return letters.at(k);
    }

    public int mirror() {
        if (!hasTones()) {
            return NONE;
        }
        now.tones.turnAbout();
        return now.tones.size;
    }

    public int shift(int by) {
        if (!hasTones() || !within(by, -2 * TONE_BOUND, 2 * TONE_BOUND)) {
            return NONE;
        }
        spareTones.copy(now.tones);
        spareTones.moveBy(by);
        return takeSpareTones();
    }

    public int tune(boolean first, int i, int v) {
        int last = first ? now.tones.size - 1 : now.tones.size - 2;
        if (!hasTones() || !within(i, 0, last) || !within(v, -TONE_BOUND, TONE_BOUND)) {
            return NONE;
        }
        spareTones.copy(now.tones);
        if (first) {
            spareTones.outer[i] = v;
        } else {
            spareTones.inner[i] = v;
        }
        return takeSpareTones();
    }

    // ---- whole tables

    public boolean table(int d, int n) {
        if (!isDrawer(d) || !within(n, 1, MOST_ROWS)) {
            return false;
        }
        now.drawers[d].begin(n);
        return true;
    }

    public int write(int d, int n) {
        if (!isDrawer(d) || !tape.holdsText(n)) {
            return NONE;
        }
        int fault = reader.scan(tape, n, false);
        tape.clear();
        if (fault != 0) {
            return fault;
        }
        now.drawers[d].take(reader);
        return now.drawers[d].rows;
    }

    public int read(int d, int k) {
        if (!isDrawer(d) || k < NONE) {
            return NONE;
        }
        WholeTable table = now.drawers[d];
        if (table.rows == 0) {
            return EMPTY;
        }
        letters.tell(table.a, table.rows, table.c);
        return letters.at(k);
    }

    public int put(int d, boolean first, int i, int v) {
        if (!isDrawer(d)) {
            return -99;
        }
        WholeTable table = now.drawers[d];
        if (table.rows == 0) {
            return -100;
        }
        if (!table.hasNumber(first, i)) {
            return -99;
        }
        if (!WholeTable.canBe(first, v)) {
            return -101;
        }
        int was = table.numberAt(first, i);
        table.setNumber(first, i, v);
        return was;
    }

    public int told(int d, boolean first, int i) {
        if (!isDrawer(d)) {
            return -99;
        }
        WholeTable table = now.drawers[d];
        if (table.rows == 0) {
            return -100;
        }
        if (i == NONE) {
            return table.rows;
        }
        return table.hasNumber(first, i) ? table.numberAt(first, i) : -99;
    }

    public long number(int d, int k, int j) {
        if (!isFilled(d) || !within(k, 0, now.drawers[d].rows) || !within(j, 0, k)) {
            return NOTHING;
        }
        work.multiplyOut(now.drawers[d]);
        return work.polynomials[k][j];
    }

    public long value(int d, int k, int x) {
        if (!isFilled(d) || !within(k, 0, now.drawers[d].rows) || !within(x, -20, 20)) {
            return NOTHING;
        }
        return now.drawers[d].valueAt(0, k, x, 1);
    }

    public int below(int d, int k, int p, int q) {
        if (!isDrawer(d) || !within(p, -1000, 1000) || !within(q, 1, MOST_PARTS)) {
            return NONE;
        }
        WholeTable table = now.drawers[d];
        if (table.rows == 0) {
            return EMPTY;
        }
        return within(k, 1, table.rows) ? table.rootsBelow(k, p, q) : NONE;
    }

    public int root(int d, int k, int i, int q) {
        if (!isDrawer(d) || !within(q, 1, MOST_PARTS)) {
            return -100001;
        }
        WholeTable table = now.drawers[d];
        if (table.rows == 0) {
            return -100000;
        }
        if (!within(k, 1, table.rows) || !within(i, 0, k - 1)) {
            return -100001;
        }
        return table.rootInParts(k, i, q);
    }

    public int whole(int d, int k) {
        if (!isDrawer(d)) {
            return NONE;
        }
        WholeTable table = now.drawers[d];
        if (table.rows == 0) {
            return EMPTY;
        }
        return within(k, 1, table.rows) ? table.wholeRoots(k) : NONE;
    }

    public long inverse(int d, int i, int j, int what) {
        if (!isFilled(d) || !isRow(d, i) || !isRow(d, j) || !isPart(what)) {
            return NOTHING;
        }
        return now.drawers[d].invert(i, j, result) ? result.part(what) : BY_ZERO;
    }

    public int alike(int d, int e, int what) {
        if (!isDrawer(d) || !isDrawer(e) || !within(what, 0, 2)) {
            return NONE;
        }
        WholeTable one = now.drawers[d];
        WholeTable other = now.drawers[e];
        if (one.rows == 0 || other.rows == 0) {
            return EMPTY;
        }
        if (what == 2) {
            return one.sharedRoots(other, MOST_PARTS);
        }
        boolean holds = what == 0 ? one.soundsLike(other) : one.isTurnOf(other);
        return holds ? 1 : 0;
    }

    public int between(int d, int e, int q) {
        if (!isDrawer(d) || !isDrawer(e) || !within(q, 1, MOST_PARTS)) {
            return NONE;
        }
        WholeTable one = now.drawers[d];
        WholeTable other = now.drawers[e];
        if (one.rows == 0 || other.rows == 0) {
            return EMPTY;
        }
        if (other.rows != one.rows - 1) {
            return NOT_SO;
        }
        return one.rootsEnclose(other, q) ? 1 : 0;
    }

    public int change(int d, int how) {
        if (!isDrawer(d) || !within(how, 0, 4)) {
            return NONE;
        }
        WholeTable table = now.drawers[d];
        if (table.rows == 0) {
            return EMPTY;
        }
        return table.alter(how) ? table.rows : NOT_SO;
    }

    public long would(int d, boolean first, int i, int v, int j) {
        if (!isFilled(d) || !now.drawers[d].hasNumber(first, i) || !WholeTable.canBe(first, v)
                || !within(j, 0, now.drawers[d].rows)) {
            return NOTHING;
        }
        spareTable.copy(now.drawers[d]);
        spareTable.setNumber(first, i, v);
        work.multiplyOut(spareTable);
        return work.polynomials[spareTable.rows][j];
    }

    public long walks(int d, int k, int i, int j) {
        if (!isFilled(d) || !within(k, 0, MOST_TIMES) || !isRow(d, i) || !isRow(d, j)) {
            return NOTHING;
        }
        return work.walk(now.drawers[d], k, i, j);
    }

    public long powers(int d, int k) {
        if (!isFilled(d) || !within(k, 0, MOST_TIMES)) {
            return NOTHING;
        }
        // The roots' powers add up to the diagonal of the table taken so many times.
        long sum = 0;
        for (int i = 0; i < now.drawers[d].rows; i++) {
            sum += work.walk(now.drawers[d], k, i, i);
        }
        return sum;
    }

    public long strike(int d, int at, int times, int i) {
        if (!isFilled(d) || !isRow(d, at) || !within(times, 0, MOST_TIMES) || !isRow(d, i)) {
            return NOTHING;
        }
        return work.swing(now.drawers[d], at, times, i);
    }

    public int draws(int d, int n, int seed) {
        if (!isDrawer(d) || !within(n, 1, MOST_ROWS)) {
            return NONE;
        }
        return now.drawers[d].draw(n, seed);
    }

    public int rivals(int d, int what, boolean first) {
        if (!isDrawer(d) || !within(what, 0, 2)) {
            return NONE;
        }
        WholeTable table = now.drawers[d];
        if (table.rows == 0) {
            return EMPTY;
        }
        int found = 0;
        for (int place = 0; place < 2 * table.rows - 1; place++) {
            boolean diagonal = place < table.rows;
            int i = diagonal ? place : place - table.rows;
            int least = diagonal ? -A_BOUND : 1;
            int most = diagonal ? A_BOUND : C_BOUND;
            for (int v = least; v <= most; v++) {
                if (!isRival(table, diagonal, i, v, what)) {
                    continue;
                }
                if (first) {
                    return diagonal ? 100 * i + v + 6 : 1000 + 100 * i + v;
                }
                found++;
            }
        }
        return first ? NONE : found;
    }

    public int census(int sum, int what) {
        if (!within(sum, -2 * A_BOUND, 2 * A_BOUND) || !within(what, 0, 2)) {
            return NONE;
        }
        int found = 0;
        spareTable.begin(2);
        for (int upper = -A_BOUND; upper <= A_BOUND; upper++) {
            if (!WholeTable.canBe(true, sum - upper)) {
                continue;
            }
            spareTable.a[0] = upper;
            spareTable.a[1] = sum - upper;
            for (int side = 1; side <= C_BOUND; side++) {
                spareTable.c[0] = side;
                // rivals() tells the last two the other way round.
                if (spareTable.meets(what == 0 ? 0 : 3 - what)) {
                    found++;
                }
            }
        }
        return found;
    }

    public int join(int d, int e, int coupling) {
        if (!isDrawer(d) || !isDrawer(e) || !WholeTable.canBe(false, coupling)) {
            return NONE;
        }
        WholeTable one = now.drawers[d];
        WholeTable other = now.drawers[e];
        if (one.rows == 0 || other.rows == 0) {
            return EMPTY;
        }
        if (one.rows + other.rows > MOST_ROWS) {
            return NOT_SO;
        }
        one.append(other, coupling);
        return one.rows;
    }

    public int nearest(int d, int q) {
        if (!isDrawer(d) || !within(q, 1, MOST_PARTS)) {
            return NONE;
        }
        WholeTable table = now.drawers[d];
        if (table.rows == 0) {
            return EMPTY;
        }
        return table.rows == 1 ? NOT_SO : table.leastStep(q);
    }

    // ---- all of the same tones

    public int all() {
        return countTables(AllTables.EVERY, 0);
    }

    public int lay(int k, int d) {
        if (!hasTones() || k < 0 || !isDrawer(d)) {
            return NONE;
        }
        if (now.tones.size > MOST_TONES_FOR_ALL) {
            return TOO_MANY_TONES;
        }
        beginAllTables();
        int passed = 0;
        for (int code = 0; code < allTables.codes(); code++) {
            if (!allTables.makes(code)) {
                continue;
            }
            if (passed == k) {
                now.drawers[d].copy(allTables.made);
                return now.drawers[d].rows;
            }
            passed++;
        }
        return NOT_SO;
    }

    public int unique() {
        return countTables(AllTables.WITH_LOWER, 0);
    }

    public int some(int what, int v) {
        return within(what, 0, 3) ? countTables(what, v) : NONE;
    }

    public int heard(int d) {
        if (!isDrawer(d)) {
            return NONE;
        }
        if (now.drawers[d].rows == 0) {
            return EMPTY;
        }
        if (!spareTones.hear(now.drawers[d])) {
            return NOT_SO;
        }
        now.tones.copy(spareTones);
        return now.tones.size;
    }

    // ---- kept

    public int keep() {
        if (keptCount >= MOST_KEPT) {
            return NONE;
        }
        if (kept[keptCount] == null) {
            kept[keptCount] = new State();
        }
        kept[keptCount].copy(now);
        keptCount++;
        return keptCount;
    }

    public int undo() {
        if (keptCount <= 0 || kept[keptCount - 1] == null) {
            return NONE;
        }
        keptCount--;
        now.copy(kept[keptCount]);
        return keptCount;
    }

    // ---- what the calls share

    private static boolean within(int number, int least, int most) {
        return number >= least && number <= most;
    }

    private static boolean isPart(int what) {
        return what == 0 || what == 1;
    }

    private static boolean isDrawer(int d) {
        return within(d, 0, DRAWER_COUNT - 1);
    }

    private boolean isFilled(int d) {
        return isDrawer(d) && now.drawers[d].rows > 0;
    }

    private boolean isRow(int d, int i) {
        return isFilled(d) && within(i, 0, now.drawers[d].rows - 1);
    }

    private boolean hasTones() {
        return now.tones.size > 0;
    }

    private boolean isTone(int i) {
        return within(i, 0, now.tones.size - 1);
    }

    private boolean hasChain() {
        return within(now.tones.size, 1, ToneTable.MOST_MASSES) && now.tones.outer[0] > 0;
    }

    private int takeSpareTones() {
        if (!spareTones.areRight()) {
            return NOT_SO;
        }
        now.tones.copy(spareTones);
        return now.tones.size;
    }

    private boolean isRival(WholeTable table, boolean diagonal, int i, int v, int what) {
        if (v == table.numberAt(diagonal, i)) {
            return false;
        }
        spareTable.copy(table);
        spareTable.setNumber(diagonal, i, v);
        return spareTable.meets(what);
    }

    private void beginAllTables() {
        numbers.rebuild(now.tones);
        allTables.begin(numbers);
    }

    private int countTables(int what, int v) {
        if (!hasTones()) {
            return NONE;
        }
        if (now.tones.size > MOST_TONES_FOR_ALL) {
            return TOO_MANY_TONES;
        }
        beginAllTables();
        int found = 0;
        for (int code = 0; code < allTables.codes(); code++) {
            if (allTables.makes(code) && allTables.madeMeets(what, v)) {
                found++;
            }
        }
        return found;
    }

    /** The bytes that were fed and not yet read. */
    private static final class Tape {
        static final int MOST_BYTES = 120;
        static final int LONGEST_TEXT = 60;

        final int[] bytes = new int[MOST_BYTES];
        int length = 0;

        boolean hasRoomForInts(int ints) {
            return length + 4 * ints <= MOST_BYTES;
        }

        void add(int four) {
            for (int shift = 24; shift >= 0 && length < MOST_BYTES; shift -= 8) {
                bytes[length] = (four >>> shift) & 255;
                length++;
            }
        }

        boolean holdsText(int n) {
            return within(n, 1, LONGEST_TEXT) && n <= length;
        }

        int byteAt(int place) {
            return within(place, 0, length - 1) ? bytes[place] : 0;
        }

        boolean isDigit(int place) {
            return within(byteAt(place), 48, 57);
        }

        void clear() {
            length = 0;
        }
    }

    /** Reads a TEXT into two rows: of TONES (L and M) or of a WHOLE TABLE (A and C). */
    private static final class TextReader {
        static final int BLANK = 32;
        static final int MINUS = 45;
        static final int SLASH = 47;
        static final int FAULT_UNIT = 1000;
        // Beyond every bound: a longer row of digits need not be told apart from it.
        static final int HUGE = 1000;

        final int[] first = new int[MOST_ROWS];
        final int[] second = new int[MOST_ROWS - 1];
        int firstCount = 0;
        int secondCount = 0;
        private boolean ofTones = false;
        private boolean pastSlash = false;
        private int numberEnd = NONE;

        /** 0, or the FAULT as the calls tell it. */
        int scan(Tape tape, int length, boolean tonesWanted) {
            ofTones = tonesWanted;
            pastSlash = false;
            numberEnd = NONE;
            firstCount = 0;
            secondCount = 0;
            int at = 0;
            for (int token = 0; token < length && at < length; token++) {
                int end = tokenEnd(tape, at, length);
                int fault = faultOfToken(tape, at, end);
                if (fault != 0) {
                    return -FAULT_UNIT * fault - at;
                }
                at = end;
            }
            boolean complete = pastSlash && secondCount == firstCount - 1;
            return complete ? 0 : -FAULT_UNIT - length;
        }

        private int tokenEnd(Tape tape, int at, int length) {
            int end = at;
            if (tape.byteAt(at) == MINUS) {
                end++;
            }
            while (end < length && tape.isDigit(end)) {
                end++;
            }
            return end > at ? end : at + 1;
        }

        private int faultOfToken(Tape tape, int at, int end) {
            int sign = tape.byteAt(at);
            if (sign == BLANK) {
                return 0;
            }
            if (sign == SLASH) {
                boolean canStand = !pastSlash && firstCount > 0;
                pastSlash = true;
                return canStand ? 0 : 1;
            }
            if (!tape.isDigit(end - 1) || at == numberEnd) {
                return 1;
            }
            numberEnd = end;
            int number = numberOf(tape, at, end);
            return pastSlash ? faultOfSecond(number) : faultOfFirst(number);
        }

        private int numberOf(Tape tape, int at, int end) {
            boolean negative = tape.byteAt(at) == MINUS;
            int number = 0;
            for (int place = negative ? at + 1 : at; place < end; place++) {
                number = Math.min(HUGE, 10 * number + tape.byteAt(place) - 48);
            }
            return negative ? -number : number;
        }

        private int faultOfFirst(int number) {
            if (!within(number, -A_BOUND, A_BOUND)) {
                return 2;
            }
            if (firstCount >= (ofTones ? MOST_TONES : MOST_ROWS)) {
                return 3;
            }
            if (ofTones && firstCount > 0 && number <= first[firstCount - 1]) {
                return 4;
            }
            first[firstCount] = number;
            firstCount++;
            return 0;
        }

        private int faultOfSecond(int number) {
            boolean inBounds = ofTones ? within(number, -TONE_BOUND, TONE_BOUND) : within(number, 1, C_BOUND);
            if (!inBounds) {
                return 2;
            }
            if (secondCount >= firstCount - 1) {
                return 3;
            }
            if (ofTones && secondCount > 0 && number <= second[secondCount - 1]) {
                return 4;
            }
            if (ofTones && (number <= first[secondCount] || number >= first[secondCount + 1])) {
                return 5;
            }
            second[secondCount] = number;
            secondCount++;
            return 0;
        }
    }

    /** Two rows of numbers told as a TEXT. */
    private static final class Letters {
        final int[] bytes = new int[60];
        int length = 0;

        void tell(int[] first, int firstCount, int[] second) {
            length = 0;
            addRow(first, firstCount);
            addByte(TextReader.SLASH);
            addRow(second, firstCount - 1);
        }

        int at(int k) {
            if (k == NONE) {
                return length;
            }
            return within(k, 0, length - 1) ? bytes[k] : NOT_SO;
        }

        private void addRow(int[] row, int count) {
            for (int i = 0; i < count && i < row.length; i++) {
                if (i > 0) {
                    addByte(TextReader.BLANK);
                }
                addNumber(row[i]);
            }
        }

        private void addNumber(int number) {
            if (number < 0) {
                addByte(TextReader.MINUS);
            }
            int size = Math.abs(number);
            if (size > 9) {
                addByte(48 + size / 10 % 10);
            }
            addByte(48 + size % 10);
        }

        private void addByte(int sign) {
            if (length < bytes.length) {
                bytes[length] = sign;
                length++;
            }
        }
    }

    /** L (outer) and M (inner); size is how many L, 0 without TONES. */
    private static final class Tones {
        int size = 0;
        final int[] outer = new int[MOST_TONES];
        final int[] inner = new int[MOST_TONES - 1];

        void take(TextReader text) {
            size = Math.min(text.firstCount, MOST_TONES);
            for (int i = 0; i < size; i++) {
                outer[i] = text.first[i];
            }
            for (int i = 0; i < size - 1; i++) {
                inner[i] = text.second[i];
            }
        }

        void copy(Tones from) {
            size = from.size;
            for (int i = 0; i < MOST_TONES; i++) {
                outer[i] = from.outer[i];
            }
            for (int i = 0; i < MOST_TONES - 1; i++) {
                inner[i] = from.inner[i];
            }
        }

        boolean areRight() {
            for (int i = 0; i < size; i++) {
                if (!within(outer[i], -TONE_BOUND, TONE_BOUND)) {
                    return false;
                }
            }
            // BETWEEN makes both rows rise.
            for (int i = 0; i < size - 1; i++) {
                if (inner[i] <= outer[i] || inner[i] >= outer[i + 1]) {
                    return false;
                }
            }
            return true;
        }

        void turnAbout() {
            negateBackwards(outer, size);
            negateBackwards(inner, size - 1);
        }

        private static void negateBackwards(int[] row, int count) {
            for (int low = 0, high = count - 1; low <= high; low++, high--) {
                int kept = row[low];
                row[low] = -row[high];
                row[high] = -kept;
            }
        }

        void moveBy(int by) {
            for (int i = 0; i < size; i++) {
                outer[i] += by;
            }
            for (int i = 0; i < size - 1; i++) {
                inner[i] += by;
            }
        }

        void weigh(int i, Fraction into) {
            long top = 1;
            for (int j = 0; j < size - 1; j++) {
                top *= outer[i] - inner[j];
            }
            long bottom = 1;
            for (int j = 0; j < size; j++) {
                if (j != i) {
                    bottom *= outer[i] - outer[j];
                }
            }
            into.set(top, bottom);
        }

        void weighPowers(int k, Fraction into) {
            long top = 0;
            long bottom = 1;
            for (int i = 0; i < size; i++) {
                weigh(i, into);
                for (int times = 0; times < k; times++) {
                    into.multiply(outer[i], 1);
                }
                into.add(top, bottom);
                top = into.top;
                bottom = into.bottom;
            }
        }

        long distances() {
            long product = 1;
            for (int i = 0; i < size; i++) {
                for (int j = 0; j < i; j++) {
                    product *= (outer[i] - outer[j]) * (outer[i] - outer[j]);
                }
            }
            return product;
        }

        /** Becomes the whole roots of a table, or answers that they are not TONES (and is free then). */
        boolean hear(WholeTable table) {
            if (table.rows > MOST_TONES) {
                return false;
            }
            size = table.rows;
            return hearRoots(table, 0, size, outer) && hearRoots(table, 1, size - 1, inner);
        }

        private static boolean hearRoots(WholeTable table, int from, int wanted, int[] into) {
            int found = 0;
            for (int x = -TONE_BOUND; x <= TONE_BOUND; x++) {
                if (found < wanted && found < into.length && table.valueAt(from, wanted, x, 1) == 0) {
                    into[found] = x;
                    found++;
                }
            }
            return found == wanted;
        }
    }

    /** A WHOLE TABLE, or an empty drawer: rows 0. */
    private static final class WholeTable {
        // No root is further from 0: the A lie within 6, and the roots of the C beside add 12 at most.
        static final int ROOT_REACH = 18;

        int rows = 0;
        final int[] a = new int[MOST_ROWS];
        final int[] c = new int[MOST_ROWS - 1];

        void begin(int n) {
            rows = n;
            for (int i = 0; i < MOST_ROWS; i++) {
                a[i] = 0;
            }
            for (int i = 0; i < MOST_ROWS - 1; i++) {
                c[i] = 1;
            }
        }

        void take(TextReader text) {
            rows = text.firstCount;
            for (int i = 0; i < MOST_ROWS; i++) {
                a[i] = text.first[i];
            }
            for (int i = 0; i < MOST_ROWS - 1; i++) {
                c[i] = text.second[i];
            }
        }

        void copy(WholeTable from) {
            rows = from.rows;
            for (int i = 0; i < MOST_ROWS; i++) {
                a[i] = from.a[i];
            }
            for (int i = 0; i < MOST_ROWS - 1; i++) {
                c[i] = from.c[i];
            }
        }

        static boolean canBe(boolean diagonal, int v) {
            return diagonal ? within(v, -A_BOUND, A_BOUND) : within(v, 1, C_BOUND);
        }

        boolean hasNumber(boolean diagonal, int i) {
            return within(i, 0, diagonal ? rows - 1 : rows - 2);
        }

        int numberAt(boolean diagonal, int i) {
            return diagonal ? a[i] : c[i];
        }

        void setNumber(boolean diagonal, int i, int v) {
            if (diagonal) {
                a[i] = v;
            } else {
                c[i] = v;
            }
        }

        /** The polynomial of k rows, begun at one of them, at p through q, times q to the k: that is whole. */
        long valueAt(int from, int k, int p, int q) {
            long before = 0;
            long value = 1;
            for (int row = from; row < from + k && row < rows; row++) {
                long next = valueBehind(row, before, value, p, q);
                before = value;
                value = next;
            }
            return value;
        }

        private long valueBehind(int row, long before, long value, int p, int q) {
            long next = (p - q * a[row]) * value;
            return row == 0 ? next : next - (long) q * q * c[row - 1] * before;
        }

        /** As many as the polynomials' values keep their sign, one by one; a 0 counts as a change of it. */
        int rootsBelow(int k, int p, int q) {
            int found = 0;
            boolean positive = true;
            long before = 0;
            long value = 1;
            for (int row = 0; row < k && row < rows; row++) {
                long next = valueBehind(row, before, value, p, q);
                boolean kept = positive ? next > 0 : next < 0;
                if (kept) {
                    found++;
                } else {
                    positive = !positive;
                }
                before = value;
                value = next;
            }
            return found;
        }

        /** Root i of k times q, cut: the highest whole number that has not more than i roots below it. */
        int rootInParts(int k, int i, int q) {
            int parts = -ROOT_REACH * q;
            for (int step = 1024; step > 0; step /= 2) {
                if (parts + step <= ROOT_REACH * q && rootsBelow(k, parts + step, q) <= i) {
                    parts += step;
                }
            }
            return parts;
        }

        int wholeRoots(int k) {
            int found = 0;
            for (int x = -ROOT_REACH; x <= ROOT_REACH; x++) {
                if (valueAt(0, k, x, 1) == 0) {
                    found++;
                }
            }
            return found;
        }

        /**
         * Asked of so many tables that it stops where the sign tells of a root between two whole
         * numbers. Two of them there keep the sign: so the whole ones are counted, too.
         */
        boolean areWhole(int k) {
            int found = 0;
            for (int x = -ROOT_REACH; x <= ROOT_REACH; x++) {
                long value = valueAt(0, k, x, 1);
                boolean isOddAbove = (k - found) % 2 == 1;
                if (value == 0) {
                    found++;
                } else if (value < 0 != isOddAbove) {
                    return false;
                }
            }
            return found == k;
        }

        /** 0 all roots are whole, 1 one is 0, 2 none is below 0. */
        boolean meets(int what) {
            if (what == 0) {
                return areWhole(rows);
            }
            if (what == 1) {
                return valueAt(0, rows, 0, 1) == 0;
            }
            return rootsBelow(rows, 0, 1) == 0;
        }

        /** False if the table can't be turned round. */
        boolean invert(int i, int j, Fraction into) {
            int low = Math.min(i, j);
            int high = Math.max(i, j);
            long pivot = valueAt(0, rows, 0, 1);
            if (pivot == 0) {
                return false;
            }
            // What is left of the determinant without the rows from low to high; the signs of the
            // three polynomials at 0 leave a minus in the diagonal.
            long rest = valueAt(0, low, 0, 1) * valueAt(high + 1, rows - high - 1, 0, 1);
            if (low == high) {
                into.set(-rest, pivot);
                return true;
            }
            into.set(rest, pivot);
            into.multiply(into.top, into.bottom);
            for (int side = low; side < high; side++) {
                into.multiply(c[side], 1);
            }
            return true;
        }

        boolean soundsLike(WholeTable other) {
            if (rows != other.rows) {
                return false;
            }
            // Two such polynomials of the same height are one if they agree as often as they are high.
            for (int x = 0; x < rows; x++) {
                if (valueAt(0, rows, x, 1) != other.valueAt(0, rows, x, 1)) {
                    return false;
                }
            }
            return true;
        }

        boolean isTurnOf(WholeTable other) {
            if (rows != other.rows) {
                return false;
            }
            for (int i = 0; i < rows; i++) {
                if (a[i] != other.a[rows - 1 - i]) {
                    return false;
                }
            }
            for (int i = 0; i < rows - 1; i++) {
                if (c[i] != other.c[rows - 2 - i]) {
                    return false;
                }
            }
            return true;
        }

        int sharedRoots(WholeTable other, int q) {
            int found = 0;
            for (int i = 0; i < rows; i++) {
                if (other.hasRootAt(rootInParts(rows, i, q), q)) {
                    found++;
                }
            }
            return found;
        }

        private boolean hasRootAt(int parts, int q) {
            for (int i = 0; i < rows; i++) {
                if (rootInParts(rows, i, q) == parts) {
                    return true;
                }
            }
            return false;
        }

        boolean rootsEnclose(WholeTable other, int q) {
            for (int i = 0; i < other.rows; i++) {
                int parts = other.rootInParts(other.rows, i, q);
                if (parts < rootInParts(rows, i, q) || parts > rootInParts(rows, i + 1, q)) {
                    return false;
                }
            }
            return true;
        }

        int leastStep(int q) {
            int least = Integer.MAX_VALUE;
            for (int i = 0; i + 1 < rows; i++) {
                least = Math.min(least, rootInParts(rows, i + 1, q) - rootInParts(rows, i, q));
            }
            return least;
        }

        /** False if it can't be so; then nothing is changed. */
        boolean alter(int how) {
            if (how == 0) {
                turnRound(a, rows);
                turnRound(c, rows - 1);
                return true;
            }
            if (how == 1 || how == 2) {
                return raise(how == 1 ? 1 : -1);
            }
            if (rows == 1) {
                return false;
            }
            if (how == 4) {
                dropFirst(a);
                dropFirst(c);
            }
            rows--;
            return true;
        }

        private static void turnRound(int[] row, int count) {
            for (int low = 0, high = count - 1; low < high; low++, high--) {
                int kept = row[low];
                row[low] = row[high];
                row[high] = kept;
            }
        }

        private boolean raise(int by) {
            for (int i = 0; i < rows; i++) {
                if (!canBe(true, a[i] + by)) {
                    return false;
                }
            }
            for (int i = 0; i < rows; i++) {
                a[i] += by;
            }
            return true;
        }

        private static void dropFirst(int[] row) {
            for (int i = 0; i + 1 < row.length; i++) {
                row[i] = row[i + 1];
            }
        }

        /** The other one may be this one: what is read stands ahead of what is written. */
        void append(WholeTable other, int coupling) {
            int more = other.rows;
            c[rows - 1] = coupling;
            for (int i = 0; i < more; i++) {
                a[rows + i] = other.a[i];
            }
            for (int i = 0; i < more - 1; i++) {
                c[rows + i] = other.c[i];
            }
            rows += more;
        }

        int draw(int n, int seed) {
            rows = n;
            int x = seed & 65535;
            for (int i = 0; i < n; i++) {
                x = drawnBehind(x);
                a[i] = x / 4 % 13 - 6;
            }
            for (int i = 0; i < n - 1; i++) {
                x = drawnBehind(x);
                c[i] = x / 4 % 36 + 1;
            }
            return x;
        }

        private static int drawnBehind(int x) {
            return (25173 * x + 13849) & 65535;
        }
    }

    /** What keep() keeps. */
    private static final class State {
        final Tones tones = new Tones();
        final WholeTable[] drawers = new WholeTable[DRAWER_COUNT];

        State() {
            for (int d = 0; d < DRAWER_COUNT; d++) {
                drawers[d] = new WholeTable();
            }
        }

        void copy(State from) {
            tones.copy(from.tones);
            for (int d = 0; d < DRAWER_COUNT; d++) {
                drawers[d].copy(from.drawers[d]);
            }
        }

        int filledDrawers() {
            int bits = 0;
            for (int d = 0; d < DRAWER_COUNT; d++) {
                if (drawers[d].rows > 0) {
                    bits |= 1 << d;
                }
            }
            return bits;
        }
    }

    /** A FRACTION, always without a common divisor and with its bottom above 0. */
    private static final class Fraction {
        long top = 0;
        long bottom = 1;

        static Fraction[] row(int count) {
            Fraction[] made = new Fraction[Math.max(0, count)];
            for (int i = 0; i < made.length; i++) {
                made[i] = new Fraction();
            }
            return made;
        }

        long part(int what) {
            return what == 0 ? top : bottom;
        }

        boolean isZero() {
            return top == 0;
        }

        void copy(Fraction from) {
            top = from.top;
            bottom = from.bottom;
        }

        /** A bottom of 0 never comes; were it to come, the fraction would be 0. */
        void set(long newTop, long newBottom) {
            if (newBottom == 0) {
                top = 0;
                bottom = 1;
                return;
            }
            long divisor = commonDivisor(newTop, newBottom);
            long sign = newBottom < 0 ? -1 : 1;
            top = sign * (newTop / divisor);
            bottom = sign * (newBottom / divisor);
        }

        void add(Fraction by) {
            add(by.top, by.bottom);
        }

        void subtract(Fraction by) {
            add(-by.top, by.bottom);
        }

        void multiply(Fraction by) {
            multiply(by.top, by.bottom);
        }

        void divide(Fraction by) {
            multiply(by.bottom, by.top);
        }

        void add(long byTop, long byBottom) {
            long divisor = commonDivisor(bottom, byBottom);
            set(top * (byBottom / divisor) + byTop * (bottom / divisor), bottom / divisor * byBottom);
        }

        /** Crosswise divisors are taken out first, so that the products stay small. */
        void multiply(long byTop, long byBottom) {
            long divisor = commonDivisor(top, byBottom);
            long crosswise = commonDivisor(byTop, bottom);
            set(top / divisor * (byTop / crosswise), bottom / crosswise * (byBottom / divisor));
        }

        /** 1 at least: also of 0 and 0. */
        private static long commonDivisor(long one, long other) {
            long high = Math.abs(one);
            long low = Math.abs(other);
            for (int step = 0; step < 100 && low != 0; step++) {
                long rest = high % low;
                high = low;
                low = rest;
            }
            return Math.max(1, high);
        }
    }

    /** What TONES make in whole numbers: P, Q, MOMENTS, DETERMINANTS. */
    private static final class ToneNumbers {
        static final int LAST_MOMENT = 7;

        int size = 0;
        final long[] upper = new long[MOST_TONES + 1];
        final long[] lower = new long[MOST_TONES];
        final long[] moments = new long[LAST_MOMENT + 1];

        void rebuild(Tones tones) {
            size = tones.size;
            multiplyOut(tones.outer, size, upper);
            multiplyOut(tones.inner, size - 1, lower);
            for (int k = 0; k <= LAST_MOMENT; k++) {
                long rest = k < size ? lower[size - 1 - k] : 0;
                for (int j = 1; j <= k && j <= size; j++) {
                    rest -= upper[size - j] * moments[k - j];
                }
                moments[k] = rest;
            }
        }

        private static void multiplyOut(int[] roots, int count, long[] into) {
            into[0] = 1;
            for (int i = 0; i < count; i++) {
                into[i + 1] = 0;
                for (int j = i + 1; j > 0; j--) {
                    into[j] = into[j - 1] - roots[i] * into[j];
                }
                into[0] = -roots[i] * into[0];
            }
        }

        /** The DETERMINANT of k and s. */
        long momentTable(int k, int s) {
            return minor(moments, k, s, 0, 0);
        }

        /** That of the rows from one on and the columns not yet used; k, 4 at most, ends the depth. */
        private static long minor(long[] moments, int k, int s, int row, int used) {
            if (row >= k) {
                return 1;
            }
            long sum = 0;
            int sign = 1;
            for (int column = 0; column < k; column++) {
                int bit = 1 << column;
                if ((used & bit) == 0 && row + column + s < moments.length) {
                    sum += sign * moments[row + column + s] * minor(moments, k, s, row + 1, used | bit);
                    sign = -sign;
                }
            }
            return sum;
        }
    }

    /** THE TABLE of TONES, its polynomials, THE FRACTION and the CHAIN. */
    private static final class ToneTable {
        static final int MOST_MASSES = 3;

        private final ToneNumbers numbers;
        int rows = 0;
        final Fraction[] a = Fraction.row(MOST_TONES);
        final Fraction[] c = Fraction.row(MOST_TONES - 1);
        final Fraction[] masses = Fraction.row(MOST_MASSES);
        final Fraction[] springs = Fraction.row(MOST_MASSES);
        private final Fraction[] rowOne = Fraction.row(MOST_TONES + 1);
        private final Fraction[] rowTwo = Fraction.row(MOST_TONES + 1);
        private final Fraction[] rowThree = Fraction.row(MOST_TONES + 1);
        private final Fraction work = new Fraction();
        private final Fraction before = new Fraction();
        private final Fraction value = new Fraction();
        private final Fraction next = new Fraction();
        private final Fraction product = new Fraction();

        ToneTable(ToneNumbers numbersToUse) {
            numbers = numbersToUse;
        }

        /** Divides P by Q, Q by what is left, and so on: each time an A, and a C as what is left begins with. */
        void rebuild(Tones tones) {
            numbers.rebuild(tones);
            rows = numbers.size;
            Fraction[] high = rowOne;
            Fraction[] low = rowTwo;
            Fraction[] rest = rowThree;
            setWhole(high, numbers.upper, rows + 1);
            setWhole(low, numbers.lower, rows);
            for (int i = 0; i < rows; i++) {
                int degree = rows - i;
                a[i].set(0, 1);
                if (degree > 1) {
                    a[i].copy(low[degree - 2]);
                }
                a[i].subtract(high[degree - 1]);
                if (degree > 1) {
                    leaveRest(high, low, rest, degree - 1, a[i]);
                    c[i].copy(rest[degree - 2]);
                    divideAll(rest, degree - 1, c[i]);
                    Fraction[] free = high;
                    high = low;
                    low = rest;
                    rest = free;
                }
            }
        }

        private static void setWhole(Fraction[] row, long[] numbers, int count) {
            for (int j = 0; j < count && j < row.length && j < numbers.length; j++) {
                row[j].set(numbers[j], 1);
            }
        }

        /** (x - shift) low - high, as far as count numbers: above, nothing is left. */
        private void leaveRest(Fraction[] high, Fraction[] low, Fraction[] rest, int count, Fraction shift) {
            for (int j = 0; j < count; j++) {
                rest[j].set(0, 1);
                if (j > 0) {
                    rest[j].copy(low[j - 1]);
                }
                work.copy(shift);
                work.multiply(low[j]);
                rest[j].subtract(work);
                rest[j].subtract(high[j]);
            }
        }

        private static void divideAll(Fraction[] row, int count, Fraction by) {
            for (int j = 0; j < count; j++) {
                row[j].divide(by);
            }
        }

        /** The numbers of the k-th polynomial; they stand until the next call. */
        Fraction[] orthogonal(int k) {
            Fraction[] earlier = rowOne;
            Fraction[] current = rowTwo;
            Fraction[] later = rowThree;
            for (int j = 0; j <= MOST_TONES; j++) {
                earlier[j].set(0, 1);
                current[j].set(j == 0 ? 1 : 0, 1);
                later[j].set(0, 1);
            }
            for (int i = 0; i < k && i < rows; i++) {
                stepOn(i, earlier, current, later);
                Fraction[] free = earlier;
                earlier = current;
                current = later;
                later = free;
            }
            return current;
        }

        private void stepOn(int i, Fraction[] earlier, Fraction[] current, Fraction[] later) {
            for (int j = 0; j <= i + 1; j++) {
                later[j].set(0, 1);
                if (j > 0) {
                    later[j].copy(current[j - 1]);
                }
                work.copy(a[i]);
                work.multiply(current[j]);
                later[j].subtract(work);
                if (i > 0) {
                    work.copy(c[i - 1]);
                    work.multiply(earlier[j]);
                    later[j].subtract(work);
                }
            }
        }

        /** From the innermost divisor outwards; false if one is 0. */
        boolean cutShort(int k, int x, Fraction into) {
            into.set(0, 1);
            for (int i = Math.min(k, rows) - 1; i >= 0; i--) {
                work.set(x, 1);
                work.subtract(a[i]);
                work.subtract(into);
                if (work.isZero()) {
                    return false;
                }
                into.set(1, 1);
                if (i > 0) {
                    into.copy(c[i - 1]);
                }
                into.divide(work);
            }
            return true;
        }

        /** The polynomials' squares at x, each through the product of the C ahead. */
        void addSquares(int x, Fraction into) {
            into.set(0, 1);
            before.set(0, 1);
            value.set(1, 1);
            product.set(1, 1);
            for (int k = 0; k < rows; k++) {
                if (k > 0) {
                    product.multiply(c[k - 1]);
                }
                work.copy(value);
                work.multiply(value);
                work.divide(product);
                into.add(work);
                next.set(x, 1);
                next.subtract(a[k]);
                next.multiply(value);
                if (k > 0) {
                    work.copy(c[k - 1]);
                    work.multiply(before);
                    next.subtract(work);
                }
                before.copy(value);
                value.copy(next);
            }
        }

        /** From the last mass, which is 1, to the wall. */
        void hang() {
            if (!within(rows, 1, MOST_MASSES)) {
                return;
            }
            int last = rows - 1;
            masses[last].set(1, 1);
            springs[last].copy(a[last]);
            for (int i = last - 1; i >= 0; i--) {
                masses[i].copy(springs[i + 1]);
                masses[i].multiply(springs[i + 1]);
                masses[i].divide(c[i]);
                masses[i].divide(masses[i + 1]);
                springs[i].copy(a[i]);
                springs[i].multiply(masses[i]);
                springs[i].subtract(springs[i + 1]);
            }
        }
    }

    /** What is reckoned of a WHOLE TABLE in rows of numbers. */
    private static final class TableWork {
        final long[][] polynomials = new long[MOST_ROWS + 1][MOST_ROWS + 1];
        private final long[] places = new long[MOST_ROWS];
        private final long[] ways = new long[MOST_ROWS];

        void multiplyOut(WholeTable table) {
            for (int j = 0; j <= MOST_ROWS; j++) {
                polynomials[0][j] = j == 0 ? 1 : 0;
            }
            for (int k = 0; k < table.rows; k++) {
                for (int j = 0; j <= MOST_ROWS; j++) {
                    long sum = -table.a[k] * polynomials[k][j];
                    if (j > 0) {
                        sum += polynomials[k][j - 1];
                    }
                    if (k > 0) {
                        sum -= table.c[k - 1] * polynomials[k - 1][j];
                    }
                    polynomials[k + 1][j] = sum;
                }
            }
        }

        /** Row i of what the table, 1 to the right of its diagonal and C to the left, makes of the places. */
        private long pull(WholeTable table, int i) {
            long sum = table.a[i] * places[i];
            if (i + 1 < table.rows) {
                sum += places[i + 1];
            }
            if (i > 0) {
                sum += table.c[i - 1] * places[i - 1];
            }
            return sum;
        }

        /** Row i, column j of the table taken k times: only that column is carried along. */
        long walk(WholeTable table, int k, int i, int j) {
            for (int row = 0; row < table.rows; row++) {
                places[row] = row == j ? 1 : 0;
            }
            for (int time = 0; time < k; time++) {
                for (int row = 0; row < table.rows; row++) {
                    ways[row] = pull(table, row);
                }
                for (int row = 0; row < table.rows; row++) {
                    places[row] = ways[row];
                }
            }
            return places[i];
        }

        long swing(WholeTable table, int at, int times, int i) {
            for (int row = 0; row < table.rows; row++) {
                places[row] = 0;
                ways[row] = row == at ? 1 : 0;
            }
            for (int time = 0; time < times; time++) {
                for (int row = 0; row < table.rows; row++) {
                    places[row] += ways[row];
                }
                for (int row = 0; row < table.rows; row++) {
                    ways[row] -= pull(table, row);
                }
            }
            return places[i];
        }
    }

    /** ALL TABLES of some TONES: each code in turn makes one of them or none. */
    private static final class AllTables {
        static final int ITS_OWN_TURN = 0;
        static final int WITH_A0 = 1;
        static final int WITH_C0 = 2;
        static final int WHOLE_BUT_LAST = 3;
        static final int WITH_LOWER = 4;
        static final int EVERY = 5;
        static final int A_CHOICES = 2 * A_BOUND + 1;

        final WholeTable made = new WholeTable();
        private int size = 0;
        private final long[] upper = new long[MOST_TONES_FOR_ALL + 1];
        private final long[] lower = new long[MOST_TONES_FOR_ALL];

        void begin(ToneNumbers numbers) {
            size = Math.min(numbers.size, MOST_TONES_FOR_ALL);
            made.begin(size);
            for (int j = 0; j <= size; j++) {
                upper[j] = numbers.upper[j];
            }
            for (int j = 0; j < size; j++) {
                lower[j] = numbers.lower[j];
            }
        }

        /** A code holds the numbers that are free, the first one highest: all A but the last, all C but the last. */
        int codes() {
            if (size == 3) {
                return A_CHOICES * A_CHOICES * C_BOUND;
            }
            return size == 2 ? A_CHOICES : 1;
        }

        boolean makes(int code) {
            if (size < 1) {
                return false;
            }
            if (size == 2) {
                made.a[0] = code - A_BOUND;
            }
            if (size == 3) {
                made.a[0] = code / (A_CHOICES * C_BOUND) - A_BOUND;
                made.a[1] = code / C_BOUND % A_CHOICES - A_BOUND;
                made.c[0] = code % C_BOUND + 1;
            }
            return setLastA() && setLastC() && made.valueAt(0, size, 0, 1) == upper[0];
        }

        /** The A together are what P has below its highest power, but for the sign. */
        private boolean setLastA() {
            long last = -upper[size - 1];
            for (int i = 0; i < size - 1; i++) {
                last -= made.a[i];
            }
            if (last < -A_BOUND || last > A_BOUND) {
                return false;
            }
            made.a[size - 1] = (int) last;
            return true;
        }

        /** One power lower stand the products of two A each, less all C. */
        private boolean setLastC() {
            if (size < 2) {
                return true;
            }
            long last = -upper[size - 2];
            for (int i = 0; i < size; i++) {
                for (int j = 0; j < i; j++) {
                    last += made.a[i] * made.a[j];
                }
            }
            for (int i = 0; i < size - 2; i++) {
                last -= made.c[i];
            }
            if (last < 1 || last > C_BOUND) {
                return false;
            }
            made.c[size - 2] = (int) last;
            return true;
        }

        boolean madeMeets(int what, int v) {
            switch (what) {
                case ITS_OWN_TURN:
                    return made.isTurnOf(made);
                case WITH_A0:
                    return made.a[0] == v;
                case WITH_C0:
                    return size > 1 && made.c[0] == v;
                case WHOLE_BUT_LAST:
                    return made.areWhole(size - 1);
                case WITH_LOWER:
                    return endsWithLower();
                default:
                    return true;
            }
        }

        /** Polynomials of the same height that agree as often as they are high are one. */
        private boolean endsWithLower() {
            for (int x = 0; x < size - 1; x++) {
                long due = 0;
                for (int j = size - 1; j >= 0; j--) {
                    due = due * x + lower[j];
                }
                if (made.valueAt(1, size - 1, x, 1) != due) {
                    return false;
                }
            }
            return true;
        }
    }
}
