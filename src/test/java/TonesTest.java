/** Promises 1 to 20: a new object, the tape, TONES and what is made of them. */
public final class TonesTest {
    private static final long NOTHING = Long.MIN_VALUE;
    private static final int LOWEST = Integer.MIN_VALUE;
    private static final int HIGHEST = Integer.MAX_VALUE;

    public static void main(String[] args) {
        newObject();
        feed();
        tones();
        toneFaults();
        count();
        polynomial();
        moment();
        weight();
        determinant();
        entry();
        ortho();
        fraction();
        chain();
        mass();
        weighed();
        kernel();
        apart();
        letter();
        mirror();
        shift();
        tune();
        Check.end();
    }

    // Promise 1
    private static void newObject() {
        ChainTables x = new ChainTables();
        Check.due("NONE", ChainTables.NONE, -1);
        for (int what = 0; what < 4; what++) {
            Check.due("new: count(" + what + ")", x.count(what), 0);
        }
        for (int d = 0; d < 4; d++) {
            Check.due("new: told(" + d + ")", x.told(d, true, -1), -100);
        }
        Check.due("new: letter", x.letter(-1), -1);
        Check.due("new: undo", x.undo(), -1);
    }

    // Promise 2
    private static void feed() {
        ChainTables x = new ChainTables();
        for (int times = 1; times <= 6; times++) {
            Check.due("feed " + times, x.feed(0, -1, LOWEST, HIGHEST, 1), 20 * times);
        }
        Check.due("feed 7", x.feed(0, 0, 0, 0, 0), -1);
        Check.due("feed 7: bytes", x.count(2), 120);
        ChainTables order = new ChainTables();
        order.feed(0x20202d36, 0x20312033, 0x2f2d3120, 0x32202020, 0x20202020);
        Check.due("feed: highest byte first", order.tones(20), 3);
        Check.due("feed: text", Texts.ofTones(order), "-6 1 3/-1 2");
        ChainTables behind = new ChainTables();
        Texts.feed(behind, "                    1 3");
        Check.due("feed: behind what is there", behind.tones(23), -1023);
    }

    // Promise 3
    private static void tones() {
        ChainTables x = new ChainTables();
        Check.due("tones of nothing", x.tones(1), -1);
        Texts.feed(x, "-6 -1 3 6/-3 0 5");
        Check.due("tones(0)", x.tones(0), -1);
        Check.due("tones(21) of 20", x.tones(21), -1);
        Check.due("tones(61)", x.tones(61), -1);
        Check.due("tones(lowest)", x.tones(LOWEST), -1);
        Check.due("tones(highest)", x.tones(HIGHEST), -1);
        Check.due("the tape stays", x.count(2), 20);
        Check.due("tones(16)", x.tones(16), 4);
        Check.due("the tape is empty then", x.count(2), 0);
        Check.due("text", Texts.ofTones(x), "-6 -1 3 6/-3 0 5");
        Texts.feed(x, "1/");
        Texts.feed(x, "2/");
        Check.due("tones(2) of 40", x.tones(2), 1);
        Check.due("all of the tape is empty then", x.count(2), 0);
        Check.due("the first bytes", x.count(10), 1);
        String long60 = "                         0001                 5 /-00004     ";
        Check.due("60 bytes", long60.length(), 60);
        Check.due("tones(60)", Texts.tones(x, long60), -5049);
        long60 = "                        -0001                 5 /-00000     ";
        Check.due("tones(60)", Texts.tones(x, long60), 2);
        Check.due("text", Texts.ofTones(x), "-1 5/0");
        Texts.feed(x, long60 + " ");
        Check.due("tones(61) of 80", x.tones(61), -1);
        Check.due("the tape stays", x.count(2), 80);
    }

    private static void toneFaults() {
        fault("/", 1, 0);
        fault(" ", 1, 1);
        fault("  x", 1, 2);
        fault("1", 1, 1);
        fault("1 ", 1, 2);
        fault("1//", 1, 2);
        fault("1/ ", 0, 1);
        fault("-/", 1, 0);
        fault("- 1/", 1, 0);
        fault("--1/", 1, 0);
        fault("1-2/", 1, 1);
        fault("1-/", 1, 1);
        fault("1 2-3/", 1, 3);
        fault("1\t3/2", 1, 1);
        fault("+1/", 1, 0);
        fault("1/\u0000", 1, 2);
        fault("1/\u00b1", 1, 2);
        fault("1 :/", 1, 2);
        fault("7/", 2, 0);
        fault(" -7/", 2, 1);
        fault("1 7x", 2, 2);
        fault("4294967297/", 2, 0);
        fault("-4294967297/", 2, 0);
        fault("18446744073709551617/", 2, 0);
        fault("-6/", 0, 1);
        fault("6/", 0, 1);
        fault("0006/", 0, 1);
        fault("-0/", 0, 1);
        fault("-6 -4 -2 0 2/", 3, 11);
        fault("-6 -4 -2 0 -6/", 3, 11);
        fault("-6 -4 -2 0 7/", 2, 11);
        fault("-6 -4 -2 0-7/", 1, 10);
        fault("1 3/2 2", 3, 6);
        fault("1/1", 3, 2);
        fault("1/7", 2, 2);
        fault("1 3/2 9", 2, 6);
        fault("1 3/2-1", 1, 5);
        fault("1 1/", 4, 2);
        fault("3 1 7/", 4, 2);
        fault("-6 -6/", 4, 3);
        fault("0 2 4/1 1", 4, 8);
        fault("0 2 4/1 0", 4, 8);
        fault("0 2 4/1 2", 5, 8);
        fault("0 2 4/1 4", 5, 8);
        fault("0 2 4/1 5", 5, 8);
        fault("0 2 4/1 3", 0, 3);
        fault("0 2 4/ 1 3 ", 0, 3);
        fault("0 2 4 /1 3", 0, 3);
        fault("0 2/-1", 5, 4);
        fault("0 2/0", 5, 4);
        fault("0 2/2", 5, 4);
        fault("0 1/", 1, 4);
        fault("0 1/0", 5, 4);
        fault("0 2 4/1", 1, 7);
        fault("0 2 4/1 ", 1, 8);
        fault("0 2/1/", 1, 5);
        fault("0 2/1 /", 1, 6);
        fault("0 2 /1x", 1, 6);
    }

    /** A fault, or (0) how many L. */
    private static void fault(String text, int number, int place) {
        ChainTables x = Texts.withTones("2 6/3");
        int due = number == 0 ? place : -1000 * number - place;
        Check.due("tones of \"" + text + "\"", Texts.tones(x, text), due);
        Check.due("tape behind \"" + text + "\"", x.count(2), 0);
        if (number != 0) {
            Check.due("behind \"" + text + "\"", Texts.ofTones(x), "2 6/3");
        }
        // Nothing of one text is left for the next one: this number begins where that one's last may have ended.
        for (int blanks = 1; blanks < 10; blanks++) {
            Texts.tones(x, text);
            Check.due("a text behind \"" + text + "\"", Texts.tones(x, " ".repeat(blanks) + "1/"), 1);
        }
    }

    // Promise 4
    private static void count() {
        ChainTables x = Texts.withTones("-6 -1 3 6/-3 0 5");
        int[] due = {-6, -1, 3, 6};
        for (int i = 0; i < 4; i++) {
            Check.due("count L", x.count(10 + i), due[i]);
        }
        due = new int[] {-3, 0, 5};
        for (int i = 0; i < 3; i++) {
            Check.due("count M", x.count(20 + i), due[i]);
        }
        int[] nothing = {-1, 4, 9, 14, 19, 23, 24, LOWEST, HIGHEST};
        for (int what : nothing) {
            Check.due("count(" + what + ")", x.count(what), LOWEST);
        }
        Check.due("count(0)", x.count(0), 4);
        x.table(3, 2);
        x.table(1, 2);
        Check.due("count(1)", x.count(1), 10);
        x.table(0, 1);
        x.table(2, 5);
        Check.due("count(1)", x.count(1), 15);
        x.feed(1, 2, 3, 4, 5);
        Check.due("count(2)", x.count(2), 20);
        x.keep();
        x.keep();
        Check.due("count(3)", x.count(3), 2);
        ChainTables one = Texts.withTones("5/");
        Check.due("count(10) of one", one.count(10), 5);
        Check.due("count(11) of one", one.count(11), LOWEST);
        Check.due("count(20) of one", one.count(20), LOWEST);
    }

    // Promise 5
    private static void polynomial() {
        ChainTables x = Texts.withTones("-6 -1 3 6/-3 0 5");
        long[] p = {108, 72, -39, -2, 1};
        for (int k = 0; k < 5; k++) {
            Check.due("P " + k, x.polynomial(true, k), p[k]);
        }
        long[] q = {0, -15, -2, 1};
        for (int k = 0; k < 4; k++) {
            Check.due("Q " + k, x.polynomial(false, k), q[k]);
        }
        Check.due("P 5", x.polynomial(true, 5), NOTHING);
        Check.due("P -1", x.polynomial(true, -1), NOTHING);
        Check.due("Q 4", x.polynomial(false, 4), NOTHING);
        Check.due("Q -1", x.polynomial(false, -1), NOTHING);
        Check.due("P lowest", x.polynomial(true, LOWEST), NOTHING);
        ChainTables one = Texts.withTones("5/");
        Check.due("P 0 of one", one.polynomial(true, 0), -5);
        Check.due("Q 0 of one", one.polynomial(false, 0), 1);
        Check.due("Q 1 of one", one.polynomial(false, 1), NOTHING);
        Check.due("Q without", new ChainTables().polynomial(false, 0), NOTHING);
        Check.due("Q -1 without", new ChainTables().polynomial(false, -1), NOTHING);
    }

    // Promise 6
    private static void moment() {
        ChainTables x = Texts.withTones("-6 -1 3 6/-3 0 5");
        long[] due = {1, 0, 24, -24, 780, -1104, 27348, -41928};
        for (int k = 0; k < 8; k++) {
            Check.due("moment " + k, x.moment(k), due[k]);
        }
        Check.due("moment 8", x.moment(8), NOTHING);
        Check.due("moment -1", x.moment(-1), NOTHING);
        Check.due("moment 7 of one", Texts.withTones("5/").moment(7), 78125);
        Check.due("moment without", new ChainTables().moment(0), NOTHING);
    }

    // Promise 7
    private static void weight() {
        ChainTables x = Texts.withTones("-6 -1 3 6/-3 0 5");
        long[] tops = {11, 3, 1, 3};
        long[] bottoms = {30, 35, 3, 14};
        for (int i = 0; i < 4; i++) {
            Check.due("weight " + i, x.weight(i, 0), tops[i]);
            Check.due("weight " + i, x.weight(i, 1), bottoms[i]);
        }
        Check.due("weight 4", x.weight(4, 0), NOTHING);
        Check.due("weight -1", x.weight(-1, 0), NOTHING);
        Check.due("weight what 2", x.weight(0, 2), NOTHING);
        Check.due("weight what -1", x.weight(0, -1), NOTHING);
        Check.due("weight of one", Texts.withTones("5/").weight(0, 0), 1);
        Check.due("weight of one", Texts.withTones("5/").weight(0, 1), 1);
        Check.due("weight without", new ChainTables().weight(0, 0), NOTHING);
    }

    // Promise 8
    private static void determinant() {
        ChainTables x = Texts.withTones("-6 -1 3 6/-3 0 5");
        long[] due = {1, 1, 24, 4320, 4618944};
        long[] shifted = {1, 0, -576, -248832, 498845952};
        for (int k = 0; k < 5; k++) {
            Check.due("determinant " + k, x.determinant(k, 0), due[k]);
            Check.due("determinant " + k + ", 1", x.determinant(k, 1), shifted[k]);
        }
        Check.due("determinant 5", x.determinant(5, 0), NOTHING);
        Check.due("determinant -1", x.determinant(-1, 0), NOTHING);
        Check.due("determinant s 2", x.determinant(0, 2), NOTHING);
        Check.due("determinant s -1", x.determinant(0, -1), NOTHING);
        ChainTables three = Texts.withTones("1 4 6/2 5");
        Check.due("determinant 3", three.determinant(3, 0), 32);
        Check.due("determinant 3, 1", three.determinant(3, 1), 768);
        Check.due("determinant 4 of three", three.determinant(4, 0), 0);
        Check.due("determinant without", new ChainTables().determinant(0, 0), NOTHING);
    }

    // Promise 9
    private static void entry() {
        ChainTables x = Texts.withTones("-6 -1 3 6/-3 0 5");
        long[] a = {0, 1, -1, 1, 12, 5, 3, 5};
        for (int i = 0; i < 8; i++) {
            Check.due("A " + i / 2, x.entry(true, i / 2, i % 2), a[i]);
        }
        long[] c = {24, 1, 15, 2, 297, 50};
        for (int i = 0; i < 6; i++) {
            Check.due("C " + i / 2, x.entry(false, i / 2, i % 2), c[i]);
        }
        ChainTables wide = Texts.withTones("-6 -2 2 6/-5 0 3");
        Check.due("wide A2", wide.entry(true, 2, 0), -5734);
        Check.due("wide A2", wide.entry(true, 2, 1), 3073);
        Check.due("wide C2", wide.entry(false, 2, 0), 1164240);
        Check.due("wide C2", wide.entry(false, 2, 1), 192721);
        Check.due("A 4", x.entry(true, 4, 0), NOTHING);
        Check.due("C 3", x.entry(false, 3, 0), NOTHING);
        Check.due("A -1", x.entry(true, -1, 0), NOTHING);
        Check.due("C -1", x.entry(false, -1, 0), NOTHING);
        Check.due("A what 2", x.entry(true, 0, 2), NOTHING);
        Check.due("A what -1", x.entry(true, 0, -1), NOTHING);
        Check.due("A of one", Texts.withTones("5/").entry(true, 0, 0), 5);
        Check.due("C of one", Texts.withTones("5/").entry(false, 0, 0), NOTHING);
        Check.due("A without", new ChainTables().entry(true, 0, 0), NOTHING);
    }

    // Promise 10
    private static void ortho() {
        ChainTables x = Texts.withTones("-6 -1 3 6/-3 0 5");
        long[] third = {288, 5, -339, 10, -7, 5, 1, 1};
        for (int i = 0; i < 8; i++) {
            Check.due("p3 " + i / 2, x.ortho(3, i / 2, i % 2), third[i]);
        }
        long[] fourth = {108, 72, -39, -2, 1};
        for (int j = 0; j < 5; j++) {
            Check.due("p4 " + j, x.ortho(4, j, 0), fourth[j]);
            Check.due("p4 bottom " + j, x.ortho(4, j, 1), 1);
        }
        long[] second = {-24, 1, 1};
        for (int j = 0; j < 3; j++) {
            Check.due("p2 " + j, x.ortho(2, j, 0), second[j]);
        }
        Check.due("p1 0", x.ortho(1, 0, 0), 0);
        Check.due("p1 0 bottom", x.ortho(1, 0, 1), 1);
        Check.due("p1 1", x.ortho(1, 1, 0), 1);
        Check.due("p0", x.ortho(0, 0, 0), 1);
        Check.due("p3 4", x.ortho(3, 4, 0), NOTHING);
        Check.due("p0 1", x.ortho(0, 1, 0), NOTHING);
        Check.due("p3 -1", x.ortho(3, -1, 0), NOTHING);
        Check.due("p5", x.ortho(5, 0, 0), NOTHING);
        Check.due("p-1", x.ortho(-1, 0, 0), NOTHING);
        Check.due("p0 what 2", x.ortho(0, 0, 2), NOTHING);
        Check.due("p0 what -1", x.ortho(0, 0, -1), NOTHING);
        Check.due("p2 of one", Texts.withTones("5/").ortho(2, 0, 0), NOTHING);
        Check.due("p0 without", new ChainTables().ortho(0, 0, 0), NOTHING);
    }

    // Promise 11
    private static void fraction() {
        ChainTables x = Texts.withTones("-6 -1 3 6/-3 0 5");
        long[] at20 = {1, 20, 7, 132, 1207, 22732, 575, 10829};
        long[] at2 = {1, 2, -1, 6, 29, 26, -5, 16};
        long[] atLowest = {-1, 20, -19, 356, -4181, 78244, -2125, 39767};
        for (int k = 1; k <= 4; k++) {
            for (int what = 0; what < 2; what++) {
                int i = 2 * k - 2 + what;
                Check.due("fraction " + k + " at 20", x.fraction(k, 20, what), at20[i]);
                Check.due("fraction " + k + " at 2", x.fraction(k, 2, what), at2[i]);
                Check.due("fraction " + k + " at -20", x.fraction(k, -20, what), atLowest[i]);
            }
        }
        int[] byZero = {-6, -3, -1, 0, 3, 5, 6};
        for (int at : byZero) {
            Check.due("fraction 4 at " + at, x.fraction(4, at, 0), -2);
            Check.due("fraction 4 at " + at, x.fraction(4, at, 1), -2);
        }
        Check.due("fraction 3 at 0", x.fraction(3, 0, 0), -11);
        Check.due("fraction 2 at -1", x.fraction(2, -1, 0), -2);
        Check.due("fraction 0", x.fraction(0, 1, 0), NOTHING);
        Check.due("fraction 5", x.fraction(5, 1, 0), NOTHING);
        Check.due("fraction at 21", x.fraction(4, 21, 0), NOTHING);
        Check.due("fraction at -21", x.fraction(4, -21, 0), NOTHING);
        Check.due("fraction what 2", x.fraction(4, 0, 2), NOTHING);
        Check.due("fraction what -1", x.fraction(4, 0, -1), NOTHING);
        Check.due("fraction without", new ChainTables().fraction(1, 0, 0), NOTHING);
    }

    // Promise 12
    private static void chain() {
        ChainTables x = Texts.withTones("1 4 6/2 5");
        long[] masses = {25, 2, 8, 1, 1, 1};
        long[] springs = {30, 1, 20, 1, 4, 1};
        for (int i = 0; i < 6; i++) {
            Check.due("mass " + i / 2, x.chain(0, i / 2, i % 2), masses[i]);
            Check.due("spring " + i / 2, x.chain(1, i / 2, i % 2), springs[i]);
        }
        Check.due("chain 3", x.chain(0, 3, 0), NOTHING);
        Check.due("chain -1", x.chain(0, -1, 0), NOTHING);
        Check.due("chain kind 2", x.chain(2, 0, 0), NOTHING);
        Check.due("chain kind -1", x.chain(-1, 0, 0), NOTHING);
        Check.due("chain what 2", x.chain(0, 0, 2), NOTHING);
        Check.due("chain what -1", x.chain(0, 0, -1), NOTHING);
        Check.due("mass of one", Texts.withTones("5/").chain(0, 0, 0), 1);
        Check.due("spring of one", Texts.withTones("5/").chain(1, 0, 0), 5);
        ChainTables four = Texts.withTones("0 2 4 6/1 3 5");
        Check.due("chain of four", four.chain(0, 3, 0), -2);
        Check.due("chain of four, 4", four.chain(0, 4, 0), NOTHING);
        ChainTables above = Texts.withTones("1 3 4 6/2 4 5");
        Check.due("no such tones", above.chain(0, 0, 0), NOTHING);
        ChainTables zero = Texts.withTones("0 2/1");
        Check.due("chain with L0 0", zero.chain(1, 1, 1), -2);
        Check.due("chain with L0 0, kind 2", zero.chain(2, 1, 1), NOTHING);
        Check.due("chain with L0 below 0", Texts.withTones("-1/").chain(0, 0, 0), -2);
        Check.due("chain without", new ChainTables().chain(0, 0, 0), NOTHING);
    }

    // Promise 13
    private static void mass() {
        ChainTables x = Texts.withTones("1 4 6/2 5");
        Check.due("mass", x.mass(0), 43);
        Check.due("mass", x.mass(1), 2);
        Check.due("mass what 2", x.mass(2), NOTHING);
        Check.due("mass what -1", x.mass(-1), NOTHING);
        Check.due("mass of two", Texts.withTones("2 6/3").mass(0), 4);
        Check.due("mass of one", Texts.withTones("5/").mass(0), 1);
        Check.due("mass with L0 0", Texts.withTones("0 2/1").mass(0), -2);
        Check.due("mass of four", Texts.withTones("-6 -1 3 6/-3 0 5").mass(1), -2);
        Check.due("mass of four, what 2", Texts.withTones("-6 -1 3 6/-3 0 5").mass(2), NOTHING);
        Check.due("mass without", new ChainTables().mass(0), NOTHING);
    }

    // Promise 14
    private static void weighed() {
        ChainTables x = Texts.withTones("-6 -1 3 6/-3 0 5");
        long[] due = {1, 0, 24, -24, 780, -1104, 27348, -41928};
        for (int k = 0; k < 8; k++) {
            Check.due("weighed " + k, x.weighed(k, 0), due[k]);
            Check.due("weighed " + k, x.weighed(k, 1), 1);
        }
        Check.due("weighed 0 with an L 0", Texts.withTones("0 2/1").weighed(0, 0), 1);
        Check.due("weighed 8", x.weighed(8, 0), NOTHING);
        Check.due("weighed -1", x.weighed(-1, 0), NOTHING);
        Check.due("weighed what 2", x.weighed(0, 2), NOTHING);
        Check.due("weighed what -1", x.weighed(0, -1), NOTHING);
        Check.due("weighed without", new ChainTables().weighed(0, 0), NOTHING);
    }

    // Promise 15
    private static void kernel() {
        ChainTables x = Texts.withTones("-6 -1 3 6/-3 0 5");
        int[] at = {-8, 0, 1, 3, 8};
        long[] tops = {19187, 241, 11329, 3, 1889};
        long[] bottoms = {243, 33, 2673, 1, 33};
        for (int i = 0; i < at.length; i++) {
            Check.due("kernel " + at[i], x.kernel(at[i], 0), tops[i]);
            Check.due("kernel " + at[i], x.kernel(at[i], 1), bottoms[i]);
        }
        Check.due("kernel of one", Texts.withTones("5/").kernel(5, 0), 1);
        Check.due("kernel 9", x.kernel(9, 0), NOTHING);
        Check.due("kernel -9", x.kernel(-9, 0), NOTHING);
        Check.due("kernel what 2", x.kernel(0, 2), NOTHING);
        Check.due("kernel what -1", x.kernel(0, -1), NOTHING);
        Check.due("kernel without", new ChainTables().kernel(0, 0), NOTHING);
    }

    // Promise 16
    private static void apart() {
        Check.due("apart", Texts.withTones("-6 -1 3 6/-3 0 5").apart(), 2057529600L);
        Check.due("apart, widest", Texts.withTones("-6 -2 2 6/-5 0 3").apart(), 2415919104L);
        Check.due("apart", Texts.withTones("1 4 6/2 5").apart(), 900);
        Check.due("apart of one", Texts.withTones("5/").apart(), 1);
        Check.due("apart without", new ChainTables().apart(), NOTHING);
    }

    // Promise 17
    private static void letter() {
        ChainTables x = new ChainTables();
        Check.due("letter(-1) without", x.letter(-1), -1);
        Check.due("letter(0) without", x.letter(0), -1);
        Texts.tones(x, "  -6   -01 0003   6 /  -3  -0 5 ");
        Check.due("letters", Texts.ofTones(x), "-6 -1 3 6/-3 0 5");
        Check.due("letter(-1)", x.letter(-1), 16);
        Check.due("letter(15)", x.letter(15), '5');
        Check.due("letter(16)", x.letter(16), -3);
        Check.due("letter(highest)", x.letter(HIGHEST), -3);
        Check.due("letter(-2)", x.letter(-2), -1);
        Check.due("letter(lowest)", x.letter(LOWEST), -1);
        Check.due("letters of one", Texts.ofTones(Texts.withTones(" -6 / ")), "-6/");
    }

    // Promise 18
    private static void mirror() {
        ChainTables x = new ChainTables();
        Check.due("mirror without", x.mirror(), -1);
        Texts.tones(x, "-6 -1 3 6/-3 0 5");
        Check.due("mirror", x.mirror(), 4);
        Check.due("mirrored", Texts.ofTones(x), "-6 -3 1 6/-5 0 3");
        Texts.tones(x, "1 4 6/2 5");
        Check.due("mirror of three", x.mirror(), 3);
        Check.due("mirrored", Texts.ofTones(x), "-6 -4 -1/-5 -2");
        Texts.tones(x, "5/");
        Check.due("mirror of one", x.mirror(), 1);
        Check.due("mirrored", Texts.ofTones(x), "-5/");
    }

    // Promise 19
    private static void shift() {
        ChainTables x = new ChainTables();
        Check.due("shift without", x.shift(0), -1);
        Texts.tones(x, "-3 1 4/-1 2");
        Check.due("shift 2", x.shift(2), 3);
        Check.due("shifted", Texts.ofTones(x), "-1 3 6/1 4");
        Check.due("shift 1", x.shift(1), -3);
        Check.due("it stays", Texts.ofTones(x), "-1 3 6/1 4");
        Check.due("shift -5", x.shift(-5), 3);
        Check.due("shifted", Texts.ofTones(x), "-6 -2 1/-4 -1");
        Check.due("shift -1", x.shift(-1), -3);
        Check.due("shift 0", x.shift(0), 3);
        Check.due("shift 12", x.shift(12), -3);
        Check.due("shift -12", x.shift(-12), -3);
        Check.due("shift 13", x.shift(13), -1);
        Check.due("shift -13", x.shift(-13), -1);
        Check.due("shift highest", x.shift(HIGHEST), -1);
        Check.due("it stays", Texts.ofTones(x), "-6 -2 1/-4 -1");
        Texts.tones(x, "-6/");
        Check.due("shift 12", x.shift(12), 1);
        Check.due("shifted", Texts.ofTones(x), "6/");
        Check.due("shift -12", x.shift(-12), 1);
        Check.due("shifted", Texts.ofTones(x), "-6/");
    }

    // Promise 20
    private static void tune() {
        ChainTables x = new ChainTables();
        Check.due("tune without", x.tune(true, 0, 0), -1);
        Texts.tones(x, "-3 1 4/-1 2");
        Check.due("tune L0 -6", x.tune(true, 0, -6), 3);
        Check.due("tune L2 6", x.tune(true, 2, 6), 3);
        Check.due("tune M1 5", x.tune(false, 1, 5), 3);
        Check.due("tuned", Texts.ofTones(x), "-6 1 6/-1 5");
        Check.due("tune M1 6", x.tune(false, 1, 6), -3);
        Check.due("tune M1 1", x.tune(false, 1, 1), -3);
        Check.due("tune L1 -1", x.tune(true, 1, -1), -3);
        Check.due("tune L1 5", x.tune(true, 1, 5), -3);
        Check.due("tune L0 -1", x.tune(true, 0, -1), -3);
        Check.due("tune L2 5", x.tune(true, 2, 5), -3);
        Check.due("it stays", Texts.ofTones(x), "-6 1 6/-1 5");
        Check.due("tune L1 4", x.tune(true, 1, 4), 3);
        Check.due("tune L1 4 again", x.tune(true, 1, 4), 3);
        Check.due("tune 7", x.tune(true, 2, 7), -1);
        Check.due("tune -7", x.tune(true, 0, -7), -1);
        Check.due("tune L3", x.tune(true, 3, 6), -1);
        Check.due("tune L-1", x.tune(true, -1, 6), -1);
        Check.due("tune M2", x.tune(false, 2, 6), -1);
        Check.due("tune M-1", x.tune(false, -1, 6), -1);
        Check.due("tuned", Texts.ofTones(x), "-6 4 6/-1 5");
        Texts.tones(x, "5/");
        Check.due("tune of one", x.tune(true, 0, -6), 1);
        Check.due("tune M of one", x.tune(false, 0, 0), -1);
        Check.due("tuned", Texts.ofTones(x), "-6/");
    }
}
