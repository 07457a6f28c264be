/**
 * What the document says of its edges, a sentence each: the last that is taken, the tape full and
 * empty, the states full and none, what wraps around. Refusals and bounds of arguments stand in
 * RefusalsTest and BoundsTest.
 */
public final class EdgesTest {
    private static final int LOWEST = Integer.MIN_VALUE;
    private static final int HIGHEST = Integer.MAX_VALUE;
    private static final String WIDE = "6 -6 6 -6 6/36 36 36 36";

    public static void main(String[] args) {
        tapeFull();
        tapeOrder();
        tapeTaken();
        oneTone();
        fourTones();
        tonesStay();
        zeroOnTheWay();
        chainsAtTheEdge();
        longestLetters();
        tonesAtTheirBounds();
        tableAtFirst();
        tablesAtTheirBounds();
        rootsAtTheEdge();
        cutsDown();
        touching();
        oneRow();
        fiveRows();
        drawsAround();
        rivalsAtTheEnds();
        censusAtTheEnds();
        joined();
        tablesOfTones();
        heard();
        statesFull();
        statesNone();
        ownMemory();
        longRun();
        Check.end();
    }

    // Promise 2: 120 bytes are taken, not more; when it is empty again, as many.
    private static void tapeFull() {
        ChainTables x = new ChainTables();
        for (int round = 0; round < 3; round++) {
            for (int times = 1; times <= 6; times++) {
                Check.due("feed", x.feed(0x20202020, 0x20202020, 0x20202020, 0x20202020, 0x20202020), 20 * times);
            }
            Check.due("feed of a full tape", x.feed(0x312f2020, 0, 0, 0, 0), -1);
            Check.due("the tape is full", x.count(2), 120);
            int answer = round == 0 ? x.tones(60) : round == 1 ? x.write(2, 60) : x.tones(1);
            Check.due("blanks alone", answer, round < 2 ? -1060 : -1001);
            Check.due("the tape is empty", x.count(2), 0);
            Check.due("an empty tape", x.tones(1), -1);
            Check.due("an empty tape", x.write(0, 1), -1);
        }
    }

    // Promise 2: the highest byte of each int first, and behind the tape.
    private static void tapeOrder() {
        for (int place = 0; place < 60; place++) {
            for (int sign : new int[] {255, 128, 127, 0}) {
                ChainTables x = new ChainTables();
                int[] ints = new int[15];
                for (int i = 0; i < 15; i++) {
                    ints[i] = 0x20202020;
                }
                int shift = 24 - 8 * (place % 4);
                ints[place / 4] = 0x20202020 & ~(255 << shift) | sign << shift;
                for (int i = 0; i < 15; i += 5) {
                    x.feed(ints[i], ints[i + 1], ints[i + 2], ints[i + 3], ints[i + 4]);
                }
                Check.due("byte " + sign + " at " + place, x.tones(60), -1000 - place);
            }
        }
    }

    // Promises 3, 22: 1 to 60 bytes; all the tape is empty then.
    private static void tapeTaken() {
        ChainTables x = new ChainTables();
        Texts.feed(x, " ".repeat(58) + "4/7");
        Check.due("tones(61) of 80", x.tones(61), -1);
        Check.due("tones(60) of 80", x.tones(60), 1);
        Check.due("tones", Texts.ofTones(x), "4/");
        Check.due("the tape is empty", x.count(2), 0);
        Texts.feed(x, " ".repeat(58) + "5/7");
        Check.due("write(61) of 80", x.write(3, 61), -1);
        Check.due("write(60) of 80", x.write(3, 60), 1);
        Check.due("table", Texts.ofTable(x, 3), "5/");
        Check.due("the tape is empty", x.count(2), 0);
        Texts.feed(x, "3" + " ".repeat(18) + "/");
        Check.due("tones(21) of 20", x.tones(21), -1);
        Check.due("tones(20) of 20", x.tones(20), 1);
        Texts.feed(x, "3" + " ".repeat(18) + "/");
        Check.due("write(21) of 20", x.write(0, 21), -1);
        Check.due("write(20) of 20", x.write(0, 20), 1);
        Texts.feed(x, "/");
        Check.due("tones(1)", x.tones(1), -1000);
        Check.due("the tape is empty", x.count(2), 0);
        Texts.feed(x, "3/0");
        Check.due("two of the bytes", x.tones(2), 1);
        Texts.feed(x, "1 2/36");
        Check.due("a digit less", x.write(0, 5), 2);
        Check.due("table", Texts.ofTable(x, 0), "1 2/3");
    }

    // Terms: n 1; MOMENTS, WEIGHTS, THE TABLE of one L
    private static void oneTone() {
        for (int l = -6; l <= 6; l++) {
            ChainTables x = Texts.withTones(l + "/");
            Check.due("P of one", x.polynomial(true, 0), -l);
            Check.due("P of one", x.polynomial(true, 1), 1);
            Check.due("Q without M", x.polynomial(false, 0), 1);
            long power = 1;
            for (int k = 0; k < 8; k++) {
                Check.due("moment of one", x.moment(k), power);
                Check.due("weighed of one", x.weighed(k, 0), power);
                power *= l;
            }
            Check.due("weight of one", x.weight(0, 0), 1);
            Check.due("determinant 1 of one", x.determinant(1, 1), l);
            Check.due("determinant 2 of one", x.determinant(2, 0), 0);
            Check.due("A0 of one", x.entry(true, 0, 0), l);
            Check.due("p1 of one", x.ortho(1, 0, 0), -l);
            Check.due("kernel of one", x.kernel(-8, 0), 1);
            Check.due("fraction of one", x.fraction(1, 20, 1), 20 - l);
            Check.due("apart of one", x.apart(), 1);
            Check.due("all of one", x.all(), 1);
            Check.due("lay of one", x.lay(0, 3), 1);
            Check.due("laid", Texts.ofTable(x, 3), l + "/");
            Check.due("unique of one", x.unique(), 1);
            Check.due("some A0 of one", x.some(1, l), 1);
            Check.due("some A0 of one", x.some(1, l + 1), 0);
            Check.due("some C0 of one", x.some(2, 1), 0);
        }
    }

    // Terms: n 4, the bounds of TONES
    private static void fourTones() {
        ChainTables x = Texts.withTones("-6 -4 -2 6/-5 -3 5");
        Check.due("four L", x.count(0), 4);
        Check.due("L0", x.count(10), -6);
        Check.due("L3", x.count(13), 6);
        Check.due("M2", x.count(22), 5);
        Check.due("determinant 0", x.determinant(0, 0), 1);
        Check.due("determinant 0, 1", x.determinant(0, 1), 1);
        for (int k = 0; k <= 4; k++) {
            Check.due("p4 is P", x.ortho(4, k, 0), x.polynomial(true, k));
        }
        Check.due("p0", x.ortho(0, 0, 1), 1);
        for (int k = 0; k < 8; k++) {
            Check.due("MOMENTS are sums of WEIGHTS", x.weighed(k, 0), x.moment(k));
        }
    }

    // Promise 3: TONES stay, whatever the FAULT; those that are read replace them whole.
    private static void tonesStay() {
        ChainTables x = Texts.withTones("-6 -4 -2 6/-5 -3 5");
        Check.due("a FAULT of its last byte", Texts.tones(x, "-6 -4 -2 6/-5 -3 6"), -5017);
        Check.due("a FAULT of its end", Texts.tones(x, "1 3 5/2"), -1007);
        Check.due("they stay", Texts.ofTones(x), "-6 -4 -2 6/-5 -3 5");
        Check.due("TONES anew", Texts.tones(x, "3/"), 1);
        Check.due("TONES anew", Texts.ofTones(x), "3/");
        Check.due("no L1", x.count(11), LOWEST);
        Check.due("no M0", x.count(20), LOWEST);
        Check.due("TONES anew", Texts.tones(x, "-6 -4 -2 6/-5 -3 5"), 4);
        Check.due("TONES anew", Texts.ofTones(x), "-6 -4 -2 6/-5 -3 5");
    }

    // Promise 11: a divisor that is 0: the innermost one, one between, the outermost one
    private static void zeroOnTheWay() {
        ChainTables x = Texts.withTones("-6 -1 3 6/-3 0 5");
        int[][] zeros = {{4, 3}, {4, 5}, {4, 0}, {4, -1}, {4, 6}, {4, -6}, {1, 0}, {2, -1}};
        for (int[] one : zeros) {
            Check.due("top of " + one[0] + " at " + one[1], x.fraction(one[0], one[1], 0), -2);
            Check.due("bottom of " + one[0] + " at " + one[1], x.fraction(one[0], one[1], 1), -2);
        }
        Check.due("0 within is nothing", x.fraction(2, 0, 0), -1);
        Check.due("0 within is nothing", x.fraction(2, 0, 1), 24);
    }

    // Promise 12: up to 3 L, L0 above 0
    private static void chainsAtTheEdge() {
        String[] hung = {"1/", "1 3/2", "1 6/5", "1 3 5/2 4", "1 3 6/2 5"};
        for (String text : hung) {
            ChainTables x = Texts.withTones(text);
            int last = x.count(0) - 1;
            Check.due("the last mass of " + text, x.chain(0, last, 0), 1);
            Check.due("the last mass of " + text, x.chain(0, last, 1), 1);
            for (int i = 0; i <= last; i++) {
                Check.due("a mass above 0", x.chain(0, i, 0) > 0 && x.chain(0, i, 1) > 0, true);
                Check.due("a spring above 0", x.chain(1, i, 0) > 0 && x.chain(1, i, 1) > 0, true);
            }
            Check.due("all masses", x.mass(0) >= x.mass(1), true);
        }
        String[] none = {"0/", "-1/", "0 3/2", "0 6/5", "-6 6/0", "0 3 5/2 4", "-1 3 6/2 5", "0 2 4 6/1 3 5"};
        for (String text : none) {
            ChainTables x = Texts.withTones(text);
            for (int what = 0; what < 2; what++) {
                Check.due("no chain of " + text, x.chain(what, 0, what), -2);
                Check.due("no mass of " + text, x.mass(what), -2);
            }
        }
    }

    // Promises 17, 23: the longest and the shortest TEXT
    private static void longestLetters() {
        ChainTables x = Texts.withTones("-6 -4 -2 0/-5 -3 -1");
        Check.due("letters", x.letter(-1), 19);
        Check.due("the last letter", x.letter(18), '1');
        Check.due("behind it", x.letter(19), -3);
        Check.due("one L", Texts.withTones("0/").letter(-1), 2);
        Check.due("the end of one L", Texts.withTones("0/").letter(1), '/');
        Check.due("behind it", Texts.withTones("0/").letter(2), -3);
        ChainTables wide = Texts.withTable(0, "-6 -6 -6 -6 -6/36 36 36 36");
        Check.due("read", wide.read(0, -1), 26);
        Check.due("the last byte", wide.read(0, 25), '6');
        Check.due("behind it", wide.read(0, 26), -3);
        wide.table(1, 1);
        Check.due("read", wide.read(1, -1), 2);
        Check.due("the last byte", wide.read(1, 1), '/');
        Check.due("behind it", wide.read(1, 2), -3);
    }

    // Promises 18 to 20: -6 and 6 are taken
    private static void tonesAtTheirBounds() {
        ChainTables x = Texts.withTones("-6 -4 -2 6/-5 -3 5");
        Check.due("mirror", x.mirror(), 4);
        Check.due("mirrored", Texts.ofTones(x), "-6 2 4 6/-5 3 5");
        Check.due("mirror", x.mirror(), 4);
        Check.due("mirrored twice", Texts.ofTones(x), "-6 -4 -2 6/-5 -3 5");
        Check.due("shift 0", x.shift(0), 4);
        Check.due("shift 1", x.shift(1), -3);
        Check.due("shift -1", x.shift(-1), -3);
        Texts.tones(x, "-6 -4/-5");
        Check.due("shift 10", x.shift(10), 2);
        Check.due("shifted", Texts.ofTones(x), "4 6/5");
        Check.due("shift -11", x.shift(-11), -3);
        Check.due("shift -10", x.shift(-10), 2);
        Check.due("shifted", Texts.ofTones(x), "-6 -4/-5");
        Check.due("shift 11", x.shift(11), -3);
        Check.due("tune 6", x.tune(true, 1, 6), 2);
        Check.due("tune 5", x.tune(false, 0, 5), 2);
        Check.due("tune 4", x.tune(true, 0, 4), 2);
        Check.due("tune -6", x.tune(true, 0, -6), 2);
        Check.due("tune -5", x.tune(false, 0, -5), 2);
        Check.due("tuned", Texts.ofTones(x), "-6 6/-5");
    }

    // Promise 21: as at first, whatever was there; the others stay
    private static void tableAtFirst() {
        ChainTables x = new ChainTables();
        for (int d = 0; d < 4; d++) {
            Texts.write(x, d, WIDE);
        }
        String[] due = {"0/", "0 0/1", "0 0 0/1 1", "0 0 0 0/1 1 1", "0 0 0 0 0/1 1 1 1"};
        for (int n = 1; n <= 5; n++) {
            Texts.write(x, 2, WIDE);
            Check.due("table", x.table(2, n), true);
            Check.due("as at first", Texts.ofTable(x, 2), due[n - 1]);
        }
        for (int d = 0; d < 4; d++) {
            Check.due("the others stay", Texts.ofTable(x, d), d == 2 ? due[4] : WIDE);
        }
    }

    // Promises 22, 24, 35: -6 and 6, 1 and 36 are taken
    private static void tablesAtTheirBounds() {
        ChainTables x = Texts.withTable(0, "-6 6 -6 6 -6/1 36 1 36");
        Check.due("write", Texts.ofTable(x, 0), "-6 6 -6 6 -6/1 36 1 36");
        for (int i = 0; i < 5; i++) {
            Check.due("put 6", x.put(0, true, i, 6), i % 2 == 0 ? -6 : 6);
            Check.due("put -6", x.put(0, true, i, -6), 6);
        }
        for (int i = 0; i < 4; i++) {
            Check.due("put 36", x.put(0, false, i, 36), i % 2 == 0 ? 1 : 36);
            Check.due("put 1", x.put(0, false, i, 1), 36);
        }
        Check.due("put", Texts.ofTable(x, 0), "-6 -6 -6 -6 -6/1 1 1 1");
        ChainTables two = Texts.withTable(1, "2 3/4");
        Check.due("would A0 6", two.would(1, true, 0, 6, 0), 14);
        Check.due("would A0 -6", two.would(1, true, 0, -6, 0), -22);
        Check.due("would C0 36", two.would(1, false, 0, 36, 0), -30);
        Check.due("would C0 1", two.would(1, false, 0, 1, 0), 5);
        Check.due("would A0 2, as it is", two.would(1, true, 0, 2, 0), 2);
        Check.due("would, the highest", two.would(1, true, 1, 6, 2), 1);
    }

    // Promise 28: less than it; -1000 and 1000, 1 and 50 are taken
    private static void rootsAtTheEdge() {
        ChainTables x = Texts.withTable(0, "0 0/36");
        for (int q = 1; q <= 50; q++) {
            Check.due("below -6", x.below(0, 2, -6 * q, q), 0);
            Check.due("below, a bit above -6", x.below(0, 2, -6 * q + 1, q), 1);
            Check.due("below 6", x.below(0, 2, 6 * q, q), 1);
            Check.due("below, a bit above 6", x.below(0, 2, 6 * q + 1, q), 2);
            Check.due("below of 1 at 0", x.below(0, 1, 0, q), 0);
            Check.due("below -1000", x.below(0, 2, -1000, q), 0);
            Check.due("below 1000", x.below(0, 2, 1000, q), 2);
        }
        Texts.write(x, 1, "6 6 6 6 6/36 36 36 36");
        Texts.write(x, 2, "-6 -6 -6 -6 -6/36 36 36 36");
        Check.due("below 20", x.below(1, 5, 1000, 50), 5);
        Check.due("below -20", x.below(1, 5, -1000, 50), 0);
        Check.due("below 20", x.below(2, 5, 1000, 50), 5);
        Check.due("below -20", x.below(2, 5, -1000, 50), 0);
        Check.due("below 16.38", x.below(1, 5, 819, 50), 4);
        Check.due("below 16.40", x.below(1, 5, 820, 50), 5);
        Check.due("below -16.40", x.below(2, 5, -820, 50), 0);
        Check.due("below -16.38", x.below(2, 5, -819, 50), 1);
        Check.due("the highest root there is", x.root(1, 5, 4, 50), 819);
        Check.due("the lowest root there is", x.root(2, 5, 0, 50), -820);
        // Of p1 to p5 at 0, each second one is 0.
        Texts.write(x, 3, "0 0 0 0 0/1 36 1 36");
        for (int k = 1; k <= 5; k++) {
            Check.due("below 0", x.below(3, k, 0, 1), k / 2);
            Check.due("below 1/50", x.below(3, k, 1, 50), (k + 1) / 2);
        }
    }

    // Promise 29: cut down, also below 0; a root that is whole in parts stays
    private static void cutsDown() {
        ChainTables x = Texts.withTable(0, "0 0/2");
        Check.due("-1.41", x.root(0, 2, 0, 1), -2);
        Check.due("1.41", x.root(0, 2, 1, 1), 1);
        Check.due("-1.41", x.root(0, 2, 0, 50), -71);
        Check.due("1.41", x.root(0, 2, 1, 50), 70);
        Texts.write(x, 0, "0 0/36");
        for (int q = 1; q <= 50; q++) {
            Check.due("-6", x.root(0, 2, 0, q), -6 * q);
            Check.due("6", x.root(0, 2, 1, q), 6 * q);
            Check.due("0", x.root(0, 1, 0, q), 0);
        }
        Check.due("whole", x.whole(0, 2), 2);
        // The second has 6 and, as far from it on either side, the root of 37: near a whole number is not whole.
        Texts.write(x, 1, "6 6 6/35 1");
        Check.due("0.0, 6, 12.0", x.whole(1, 3), 3);
        Texts.write(x, 1, "6 6 6/35 2");
        Check.due("-0.08, 6, 12.08", x.whole(1, 3), 1);
        Check.due("-0.08, 6, 12.08", x.root(1, 3, 0, 50), -5);
        Check.due("-0.08, 6, 12.08", x.root(1, 3, 0, 1), -1);
    }

    // Promise 33: not below and not above: the same is between
    private static void touching() {
        ChainTables x = Texts.withTable(0, "0 0/36");
        for (int v = -6; v <= 6; v++) {
            Texts.write(x, 1, v + "/");
            Check.due("between -6 and 6", x.between(0, 1, 50), 1);
        }
        Texts.write(x, 0, "0 0/25");
        for (int v = -6; v <= 6; v++) {
            Texts.write(x, 1, v + "/");
            Check.due("between -5 and 5: " + v, x.between(0, 1, 1), v >= -5 && v <= 5 ? 1 : 0);
        }
    }

    // Promises 34, 40, 42, 43: of one row
    private static void oneRow() {
        ChainTables x = Texts.withTable(0, "5/");
        Check.due("one more: 6 is taken", x.change(0, 1), 1);
        Check.due("one more", x.change(0, 1), -3);
        Check.due("it stays", Texts.ofTable(x, 0), "6/");
        Texts.write(x, 0, "-5/");
        Check.due("one less: -6 is taken", x.change(0, 2), 1);
        Check.due("one less", x.change(0, 2), -3);
        Check.due("it stays", Texts.ofTable(x, 0), "-6/");
        Check.due("turned round", x.change(0, 0), 1);
        Check.due("no row left", x.change(0, 3), -3);
        Check.due("no row left", x.change(0, 4), -3);
        Check.due("just one", x.nearest(0, 50), -3);
        Check.due("whole", x.whole(0, 1), 1);
        Check.due("walks", x.walks(0, 8, 0, 0), 1679616);
        Check.due("powers", x.powers(0, 8), 1679616);
        Check.due("powers 0", x.powers(0, 0), 1);
        Check.due("inverse", x.inverse(0, 0, 0, 0), -1);
        Check.due("inverse", x.inverse(0, 0, 0, 1), 6);
        Check.due("alike", x.alike(0, 0, 0), 1);
        Check.due("turned round with itself", x.alike(0, 0, 1), 1);
        Check.due("join", x.join(0, 0, 36), 2);
        Check.due("joined", Texts.ofTable(x, 0), "-6 -6/36");
    }

    // Of five rows: the last row, the last number
    private static void fiveRows() {
        ChainTables x = Texts.withTable(0, "1 2 3 4 5/6 7 8 9");
        Check.due("A4", x.told(0, true, 4), 5);
        Check.due("C3", x.told(0, false, 3), 9);
        Check.due("the highest", x.number(0, 5, 5), 1);
        Check.due("p5 at 20", x.value(0, 5, 20), 1248429);
        Check.due("p5 at -20", x.value(0, 5, -20), -6020331);
        Check.due("one more", x.change(0, 1), 5);
        Check.due("one more than 6", x.change(0, 1), -3);
        Check.due("it stays", Texts.ofTable(x, 0), "2 3 4 5 6/6 7 8 9");
        Check.due("turned round", x.change(0, 0), 5);
        Check.due("one more than 6", x.change(0, 1), -3);
        for (int n = 4; n >= 1; n--) {
            Check.due("without its last row", x.change(0, 3), n);
        }
        Check.due("text", Texts.ofTable(x, 0), "6/");
        Texts.write(x, 0, "1 2 3 4 5/6 7 8 9");
        for (int n = 4; n >= 1; n--) {
            Check.due("without its first row", x.change(0, 4), n);
        }
        Check.due("text", Texts.ofTable(x, 0), "5/");
        Check.due("taken no time", Texts.withTable(0, WIDE).walks(0, 0, 4, 4), 1);
        Check.due("taken no time", Texts.withTable(0, WIDE).walks(0, 0, 4, 3), 0);
        Check.due("struck no time", Texts.withTable(0, WIDE).strike(0, 4, 0, 4), 0);
        Check.due("struck once", Texts.withTable(0, WIDE).strike(0, 4, 1, 4), 1);
        Check.due("struck once", Texts.withTable(0, WIDE).strike(0, 4, 1, 3), 0);
    }

    // Promise 39: modulo 65536, the lowest 16 bits
    private static void drawsAround() {
        int[] seeds = {0, 65536, -65536, 1 << 30, LOWEST, 131072};
        for (int seed : seeds) {
            same(seed, 0);
        }
        int[] last = {65535, -1, HIGHEST, 131071, LOWEST + 65535};
        for (int seed : last) {
            same(seed, 65535);
        }
        ChainTables x = new ChainTables();
        // 25173 times 2 and 13849 is 64195; times 64195 and 13849 goes round many times.
        Check.due("X", x.draws(0, 1, 2), 64195);
        Check.due("drawn", Texts.ofTable(x, 0), "0/");
        Check.due("X", x.draws(0, 2, 2), (int) ((25173L * (25173L * 64195 % 65536 + 13849) + 13849) % 65536));
        Check.due("X of five", x.draws(0, 5, 0), 31473);
        Check.due("drawn", Texts.ofTable(x, 0), drawn(5, 0));
        for (int n = 1; n <= 5; n++) {
            for (int seed = 0; seed < 65536; seed += 97) {
                x.draws(n % 4, n, seed);
                Check.due("draws " + n + " " + seed, Texts.ofTable(x, n % 4), drawn(n, seed));
            }
        }
    }

    private static void same(int seed, int lowest) {
        ChainTables x = new ChainTables();
        Check.due("X of " + seed, x.draws(0, 5, seed), x.draws(1, 5, lowest));
        Check.due("drawn by " + seed, Texts.ofTable(x, 0), Texts.ofTable(x, 1));
        Check.due("drawn by " + seed, Texts.ofTable(x, 0), drawn(5, lowest));
    }

    private static String drawn(int n, int seed) {
        StringBuilder text = new StringBuilder();
        long x = seed;
        for (int i = 0; i < 2 * n - 1; i++) {
            x = (25173 * x + 13849) % 65536;
            text.append(i == 0 || i == n ? "" : " ").append(i < n ? x / 4 % 13 - 6 : x / 4 % 36 + 1);
            text.append(i == n - 1 ? "/" : "");
        }
        return text.toString();
    }

    // Promise 40: the first and the last number within bounds; not the one that is there
    private static void rivalsAtTheEnds() {
        rivalsWithZero("0 -1/6", 1, 0);
        rivalsWithZero("0 1/6", 1, 12);
        rivalsWithZero("-1 0/6", 1, 100);
        rivalsWithZero("1 0/6", 1, 112);
        rivalsWithZero("-1 -1/36", 1, 1001);
        rivalsWithZero("6 6/1", 1, 1036);
        rivalsWithZero("1 1/1", 0, -1);
        rivalsWithZero("0/", 0, -1);
        rivalsWithZero("6/", 1, 6);
        rivalsWithZero("0 0 0 0 0/1 1 1 1", 164, 100);
        ChainTables x = Texts.withTable(2, "-6/");
        Check.due("all but itself", x.rivals(2, 0, false), 12);
        Check.due("the first but itself", x.rivals(2, 0, true), 1);
        Check.due("not below 0", x.rivals(2, 2, false), 7);
        Check.due("the first not below 0", x.rivals(2, 2, true), 6);
        Check.due("it stays", Texts.ofTable(x, 2), "-6/");
    }

    private static void rivalsWithZero(String text, int count, int first) {
        ChainTables x = Texts.withTable(2, text);
        Check.due("rivals of " + text, x.rivals(2, 1, false), count);
        Check.due("the first rival of " + text, x.rivals(2, 1, true), first);
    }

    // Promise 41: -12 and 12; C from 1 to 36
    private static void censusAtTheEnds() {
        ChainTables x = new ChainTables();
        Check.due("6 and 6, whole", x.census(12, 0), 6);
        Check.due("6 and 6, none below 0", x.census(12, 1), 36);
        Check.due("6 and 6, a root 0", x.census(12, 2), 1);
        Check.due("-6 and -6, whole", x.census(-12, 0), 6);
        Check.due("-6 and -6, none below 0", x.census(-12, 1), 0);
        Check.due("-6 and -6, a root 0", x.census(-12, 2), 1);
        // 1 and 1 have C 1, the others too little.
        Check.due("2 together, a root 0", x.census(2, 2), 1);
        Check.due("0 together, a root 0", x.census(0, 2), 0);
    }

    // Promise 42: 5 rows are taken, 6 not
    private static void joined() {
        for (int n = 1; n <= 5; n++) {
            for (int more = 1; more <= 5; more++) {
                ChainTables x = new ChainTables();
                x.table(0, n);
                x.draws(1, more, n);
                String second = Texts.ofTable(x, 1);
                Check.due(n + " and " + more, x.join(0, 1, 36), n + more <= 5 ? n + more : -3);
                Check.due("rows", x.told(0, true, -1), n + more <= 5 ? n + more : n);
                Check.due("the second stays", Texts.ofTable(x, 1), second);
            }
        }
    }

    // Promises 44 to 47: Ai and Ci within their bounds
    private static void tablesOfTones() {
        ChainTables x = Texts.withTones("-6 6/0");
        Check.due("A0 -5 to 5", x.all(), 11);
        Check.due("the last", x.lay(10, 0), 2);
        Check.due("laid", Texts.ofTable(x, 0), "5 -5/11");
        Check.due("C0 36", x.some(2, 36), 1);
        Check.due("none with -6", x.some(1, -6), 0);
        Check.due("any v", x.some(0, LOWEST), 1);
        Check.due("any v", x.some(3, HIGHEST), 11);
        Texts.tones(x, "4 6/5");
        Check.due("5 and 5 alone: 4 and 6 have C 0", x.all(), 1);
        Check.due("laid", x.lay(0, 1), 2);
        Check.due("laid", Texts.ofTable(x, 1), "5 5/1");
        Texts.tones(x, "-6 5/0");
        Check.due("-5 and 4 up to 4 and -5", x.all(), 10);
        Check.due("-6 to -4", Texts.tones(x, "-6 -4/-5"), 2);
        Check.due("-5 and -5 alone", x.all(), 1);
    }

    // Promise 48: n 1 to 4, each -6 to 6
    private static void heard() {
        ChainTables x = Texts.withTable(0, "-6/");
        Check.due("-6", x.heard(0), 1);
        Check.due("-6", Texts.ofTones(x), "-6/");
        Texts.write(x, 0, "6/");
        Check.due("6", x.heard(0), 1);
        Check.due("6", Texts.ofTones(x), "6/");
        Texts.write(x, 0, "5 6/2");
        Check.due("4 and 7", x.heard(0), -3);
        Texts.write(x, 0, "-5 -6/2");
        Check.due("-7 and -4", x.heard(0), -3);
        Check.due("they stay", Texts.ofTones(x), "6/");
        Check.due("what is heard is rebuilt", Texts.write(x, 1, "0 0 0 0/12 22 3"), 4);
        x.heard(1);
        for (int i = 0; i < 4; i++) {
            Check.due("A", x.entry(true, i, 0), 0);
        }
        Check.due("C0", x.entry(false, 0, 0), 12);
        Check.due("C1", x.entry(false, 1, 0), 22);
        Check.due("C2", x.entry(false, 2, 0), 3);
    }

    // Promise 49: 8 are kept, not 9; then each is as it was
    private static void statesFull() {
        ChainTables x = new ChainTables();
        for (int round = 0; round < 2; round++) {
            for (int n = 1; n <= 8; n++) {
                Texts.tones(x, (n - 3) + "/");
                x.draws(n % 4, n % 5 + 1, n);
                Check.due("keep", x.keep(), n);
                Check.due("kept", x.count(3), n);
            }
            Texts.tones(x, "-6 6/0");
            x.table(3, 5);
            Check.due("keep of 8", x.keep(), -1);
            Check.due("kept", x.count(3), 8);
            for (int n = 8; n >= 1; n--) {
                Texts.tones(x, "-6 -4 -2 6/-5 -3 5");
                x.table(n % 4, 5);
                Check.due("undo", x.undo(), n - 1);
                Check.due("tones", Texts.ofTones(x), (n - 3) + "/");
                Check.due("table", Texts.ofTable(x, n % 4), drawn(n % 5 + 1, n));
                Check.due("kept", x.count(3), n - 1);
            }
            Check.due("undo of none", x.undo(), -1);
            Check.due("they stay", Texts.ofTones(x), "-2/");
        }
    }

    // Promise 50: also no TONES and empty DRAWERS are as they were
    private static void statesNone() {
        ChainTables x = new ChainTables();
        Check.due("keep", x.keep(), 1);
        for (int d = 0; d < 4; d++) {
            x.table(d, 5);
        }
        Texts.tones(x, "3/");
        x.feed(0x20202020, 0, 0, 0, 0);
        Check.due("undo", x.undo(), 0);
        Check.due("no TONES", x.count(0), 0);
        Check.due("no TONES", x.letter(-1), -1);
        Check.due("all empty", x.count(1), 0);
        Check.due("the tape stays", x.count(2), 20);
        Check.due("undo of none", x.undo(), -1);
    }

    // Terms: all memory is the table's own: two objects, two DRAWERS, a state and what is there share nothing
    private static void ownMemory() {
        ChainTables x = Texts.withTones("1 4 6/2 5");
        ChainTables y = Texts.withTones("-6 6/0");
        x.lay(0, 0);
        x.lay(0, 1);
        y.lay(0, 0);
        x.keep();
        y.keep();
        x.put(0, true, 0, -6);
        x.put(0, false, 1, 36);
        x.mirror();
        x.feed(0x20202020, 0, 0, 0, 0);
        Check.due("the drawer", Texts.ofTable(x, 0), "-6 3 5/3 36");
        Check.due("the other drawer", Texts.ofTable(x, 1), "3 3 5/3 2");
        Check.due("the other object", Texts.ofTable(y, 0), "-5 5/11");
        Check.due("the other object", Texts.ofTones(y), "-6 6/0");
        Check.due("the other object", y.count(2), 0);
        Check.due("moments of the other object", y.moment(2), 36);
        Check.due("moments", x.moment(1), -4);
        Check.due("undo", x.undo(), 0);
        Check.due("the other object", y.count(3), 1);
        Check.due("as it was kept", Texts.ofTable(x, 0), "3 3 5/3 2");
        Check.due("as it was kept", Texts.ofTones(x), "1 4 6/2 5");
        x.join(2, 0, 1);
        x.table(2, 1);
        x.join(2, 0, 1);
        x.put(2, true, 1, 0);
        Check.due("what was joined", Texts.ofTable(x, 2), "0 0 3 5/1 3 2");
        Check.due("where it came from", Texts.ofTable(x, 0), "3 3 5/3 2");
    }

    // An object is used for at most 512 calls: the last one answers as the first one did.
    private static void longRun() {
        ChainTables x = Texts.withTones("1 4 6/2 5");
        Texts.write(x, 0, WIDE);
        long rivals = x.rivals(0, 0, false);
        long masses = x.mass(0);
        for (int calls = 6; calls < 506; calls += 4) {
            Check.due("all", x.all(), 7);
            Check.due("rivals", x.rivals(0, 0, false), rivals);
            Check.due("lay", x.lay(6, 1), 3);
            Check.due("mass", x.mass(0), masses);
        }
        Check.due("laid", Texts.ofTable(x, 1), "5 3 3/2 3");
    }
}
