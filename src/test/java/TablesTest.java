/** Promises 21 to 43: WHOLE TABLES in their DRAWERS. */
public final class TablesTest {
    private static final long NOTHING = Long.MIN_VALUE;
    private static final int LOWEST = Integer.MIN_VALUE;
    private static final int HIGHEST = Integer.MAX_VALUE;
    private static final String THREE = "1 -2 3/4 5";
    private static final String WIDE = "6 -6 6 -6 6/36 36 36 36";

    public static void main(String[] args) {
        table();
        write();
        writeFaults();
        read();
        put();
        told();
        number();
        value();
        below();
        root();
        whole();
        inverse();
        alike();
        between();
        change();
        would();
        walks();
        powers();
        strike();
        draws();
        rivals();
        census();
        join();
        nearest();
        Check.end();
    }

    // Promise 21
    private static void table() {
        ChainTables x = new ChainTables();
        Check.due("table(0, 5)", x.table(0, 5), true);
        Check.due("at first", Texts.ofTable(x, 0), "0 0 0 0 0/1 1 1 1");
        Texts.write(x, 0, WIDE);
        Check.due("table(0, 3)", x.table(0, 3), true);
        Check.due("at first", Texts.ofTable(x, 0), "0 0 0/1 1");
        Check.due("table(3, 1)", x.table(3, 1), true);
        Check.due("at first", Texts.ofTable(x, 3), "0/");
        Check.due("table(0, 0)", x.table(0, 0), false);
        Check.due("table(0, 6)", x.table(0, 6), false);
        Check.due("table(-1, 1)", x.table(-1, 1), false);
        Check.due("table(4, 1)", x.table(4, 1), false);
        Check.due("table(lowest, lowest)", x.table(LOWEST, LOWEST), false);
        Check.due("it stays", Texts.ofTable(x, 0), "0 0 0/1 1");
        Check.due("drawers", x.count(1), 9);
    }

    // Promise 22
    private static void write() {
        ChainTables x = new ChainTables();
        Check.due("write of nothing", x.write(0, 1), -1);
        Texts.feed(x, WIDE);
        Check.due("write(4)", x.write(4, 23), -1);
        Check.due("write(-1)", x.write(-1, 23), -1);
        Check.due("write(0, 0)", x.write(0, 0), -1);
        Check.due("write(0, 61)", x.write(0, 61), -1);
        Check.due("write(0, 41) of 40", x.write(0, 41), -1);
        Check.due("the tape stays", x.count(2), 40);
        Check.due("write", x.write(0, 25), -1023);
        Check.due("the tape is empty then", x.count(2), 0);
        Check.due("write", Texts.write(x, 0, WIDE), 5);
        Check.due("the tape is empty then", x.count(2), 0);
        Check.due("text", Texts.ofTable(x, 0), WIDE);
        Check.due("write", Texts.write(x, 3, " -6 /"), 1);
        Check.due("text", Texts.ofTable(x, 3), "-6/");
        Check.due("write", Texts.write(x, 1, "3 3 -3 2/1  036 9 "), 4);
        Check.due("text", Texts.ofTable(x, 1), "3 3 -3 2/1 36 9");
        Check.due("write", Texts.write(x, 1, "3 3 -3 2/10 19 20"), 4);
        Check.due("text", Texts.ofTable(x, 1), "3 3 -3 2/10 19 20");
        Check.due("tones stay away", x.count(0), 0);
        String long60 = "                              6 -6 0 000000000000/0000036 1 ";
        Check.due("60 bytes", long60.length(), 60);
        Check.due("write 60", Texts.write(x, 2, long60), -1060);
        Check.due("write 60", Texts.write(x, 2, long60.replaceFirst(" 0 ", "   ")), 3);
        Check.due("text", Texts.ofTable(x, 2), "6 -6 0/36 1");
    }

    private static void writeFaults() {
        fault("/", 1, 0);
        fault(" ", 1, 1);
        fault("1", 1, 1);
        fault("1-2/3", 1, 1);
        fault("1 -/3", 1, 2);
        fault("1 2/3-4", 1, 5);
        fault("1 2/3/", 1, 5);
        fault("1 2/", 1, 4);
        fault("1 2 3/4", 1, 7);
        fault("1 2.3/4", 1, 3);
        fault("1 7/3", 2, 2);
        fault("-7 1/3", 2, 0);
        fault("1 2/0", 2, 4);
        fault("1 2/-1", 2, 4);
        fault("1 2/37", 2, 4);
        fault("1 2/3600000000000000000000001", 2, 4);
        fault("1 2 3 4 5 6/", 3, 10);
        fault("1 2 3 4 5 7/", 2, 10);
        fault("1 2/3 4", 3, 6);
        fault("1 2/3 37", 2, 6);
        fault("1/1", 3, 2);
        fault("1/0", 2, 2);
        fault("3 1 2 2 2/9 9 1 1", 0, 5);
        fault("0 1/1", 0, 2);
    }

    private static void fault(String text, int number, int place) {
        ChainTables x = Texts.withTable(2, THREE);
        int due = number == 0 ? place : -1000 * number - place;
        Check.due("write of \"" + text + "\"", Texts.write(x, 2, text), due);
        Check.due("tape behind \"" + text + "\"", x.count(2), 0);
        if (number != 0) {
            Check.due("behind \"" + text + "\"", Texts.ofTable(x, 2), THREE);
        }
    }

    // Promise 23
    private static void read() {
        ChainTables x = Texts.withTable(2, WIDE);
        Check.due("read(-1)", x.read(2, -1), 23);
        Check.due("read(22)", x.read(2, 22), '6');
        Check.due("read(12)", x.read(2, 12), '3');
        Check.due("read(0)", x.read(2, 0), '6');
        Check.due("read(1)", x.read(2, 1), ' ');
        Check.due("read(2)", x.read(2, 2), '-');
        Check.due("read(11)", x.read(2, 11), '/');
        Check.due("read(23)", x.read(2, 23), -3);
        Check.due("read(highest)", x.read(2, HIGHEST), -3);
        Check.due("read(-2)", x.read(2, -2), -1);
        Check.due("read of empty", x.read(0, 0), -2);
        Check.due("read(-1) of empty", x.read(0, -1), -2);
        Check.due("read(99) of empty", x.read(0, 99), -2);
        Check.due("read(-2) of empty", x.read(0, -2), -1);
        Check.due("read of 4", x.read(4, 0), -1);
        Check.due("read of -1", x.read(-1, 0), -1);
    }

    // Promise 24
    private static void put() {
        ChainTables x = Texts.withTable(2, THREE);
        Check.due("put A1 6", x.put(2, true, 1, 6), -2);
        Check.due("put A1 -6", x.put(2, true, 1, -6), 6);
        Check.due("put C1 36", x.put(2, false, 1, 36), 5);
        Check.due("put C0 1", x.put(2, false, 0, 1), 4);
        Check.due("put A1 7", x.put(2, true, 1, 7), -101);
        Check.due("put A1 -7", x.put(2, true, 1, -7), -101);
        Check.due("put C1 0", x.put(2, false, 1, 0), -101);
        Check.due("put C1 37", x.put(2, false, 1, 37), -101);
        Check.due("put A3", x.put(2, true, 3, 0), -99);
        Check.due("put A3 7", x.put(2, true, 3, 7), -99);
        Check.due("put A-1", x.put(2, true, -1, 0), -99);
        Check.due("put C2", x.put(2, false, 2, 1), -99);
        Check.due("put C-1", x.put(2, false, -1, 1), -99);
        Check.due("put of 4", x.put(4, true, 0, 0), -99);
        Check.due("put of -1", x.put(-1, true, 0, 0), -99);
        Check.due("put of empty", x.put(0, true, 0, 0), -100);
        Check.due("put A9 of empty", x.put(0, true, 9, 99), -100);
        Check.due("text", Texts.ofTable(x, 2), "1 -6 3/1 36");
        x.table(1, 1);
        Check.due("put C0 of one row", x.put(1, false, 0, 1), -99);
    }

    // Promise 25
    private static void told() {
        ChainTables x = Texts.withTable(2, THREE);
        Check.due("told rows", x.told(2, true, -1), 3);
        Check.due("told rows", x.told(2, false, -1), 3);
        Check.due("told A2", x.told(2, true, 2), 3);
        Check.due("told C1", x.told(2, false, 1), 5);
        Check.due("told A3", x.told(2, true, 3), -99);
        Check.due("told C2", x.told(2, false, 2), -99);
        Check.due("told A-2", x.told(2, true, -2), -99);
        Check.due("told C lowest", x.told(2, false, LOWEST), -99);
        Check.due("told of 4", x.told(4, true, -1), -99);
        Check.due("told of -1", x.told(-1, true, -1), -99);
        Check.due("told of empty", x.told(3, true, -1), -100);
        Check.due("told A9 of empty", x.told(3, true, 9), -100);
    }

    // Promise 26
    private static void number() {
        ChainTables x = Texts.withTable(2, THREE);
        long[] third = {23, -14, -2, 1};
        for (int j = 0; j < 4; j++) {
            Check.due("number 3 " + j, x.number(2, 3, j), third[j]);
        }
        Check.due("number 2 0", x.number(2, 2, 0), -6);
        Check.due("number 1 0", x.number(2, 1, 0), -1);
        Check.due("number 0 0", x.number(2, 0, 0), 1);
        Check.due("number 3 4", x.number(2, 3, 4), NOTHING);
        Check.due("number 3 -1", x.number(2, 3, -1), NOTHING);
        Check.due("number 0 1", x.number(2, 0, 1), NOTHING);
        Check.due("number 4 0", x.number(2, 4, 0), NOTHING);
        Check.due("number -1 0", x.number(2, -1, 0), NOTHING);
        Check.due("number of empty", x.number(0, 0, 0), NOTHING);
        Check.due("number of 4", x.number(4, 0, 0), NOTHING);
        ChainTables wide = Texts.withTable(0, WIDE);
        long[] fifth = {-62208, 10368, 1296, -216, -6, 1};
        for (int j = 0; j < 6; j++) {
            Check.due("number 5 " + j, wide.number(0, 5, j), fifth[j]);
        }
        Check.due("number 5 6", wide.number(0, 5, 6), NOTHING);
    }

    // Promise 27
    private static void value() {
        ChainTables x = Texts.withTable(2, THREE);
        Check.due("value 3 at 0", x.value(2, 3, 0), 23);
        Check.due("value 3 at 20", x.value(2, 3, 20), 8000 - 800 - 280 + 23);
        Check.due("value 3 at -20", x.value(2, 3, -20), -8000 - 800 + 280 + 23);
        Check.due("value 2 at 2", x.value(2, 2, 2), 0);
        Check.due("value 1 at 7", x.value(2, 1, 7), 6);
        Check.due("value 0 at 7", x.value(2, 0, 7), 1);
        Check.due("value 4", x.value(2, 4, 0), NOTHING);
        Check.due("value -1", x.value(2, -1, 0), NOTHING);
        Check.due("value at 21", x.value(2, 3, 21), NOTHING);
        Check.due("value at -21", x.value(2, 3, -21), NOTHING);
        Check.due("value of empty", x.value(0, 0, 0), NOTHING);
        Check.due("value of -1", x.value(-1, 0, 0), NOTHING);
    }

    // Promise 28
    private static void below() {
        ChainTables x = Texts.withTable(2, THREE);
        Check.due("below 2", x.below(2, 2, 2, 1), 1);
        Check.due("below 2 and a bit", x.below(2, 2, 101, 50), 2);
        Check.due("below -3", x.below(2, 2, -3, 1), 0);
        Check.due("below -149/50", x.below(2, 2, -149, 50), 1);
        Check.due("below 1, where p1 is 0", x.below(2, 3, 1, 1), 1);
        Check.due("below 78/50", x.below(2, 3, 78, 50), 1);
        Check.due("below 79/50", x.below(2, 3, 79, 50), 2);
        Check.due("below 1000", x.below(2, 3, 1000, 1), 3);
        Check.due("below -1000", x.below(2, 3, -1000, 1), 0);
        Check.due("below of 1", x.below(2, 1, 1, 1), 0);
        Check.due("below of 1", x.below(2, 1, 51, 50), 1);
        Check.due("below p 1001", x.below(2, 3, 1001, 1), -1);
        Check.due("below p -1001", x.below(2, 3, -1001, 1), -1);
        Check.due("below q 0", x.below(2, 3, 0, 0), -1);
        Check.due("below q 51", x.below(2, 3, 0, 51), -1);
        Check.due("below k 0", x.below(2, 0, 0, 1), -1);
        Check.due("below k 4", x.below(2, 4, 0, 1), -1);
        Check.due("below of 4", x.below(4, 1, 0, 1), -1);
        Check.due("below of empty", x.below(0, 1, 0, 1), -2);
        Check.due("below k 99 of empty", x.below(0, 99, 0, 1), -2);
        Check.due("below q 0 of empty", x.below(0, 1, 0, 0), -1);
        ChainTables wide = Texts.withTable(0, WIDE);
        int[] counts = {0, 1, 1, 2, 2, 3, 3, 4, 4, 5};
        int[] at = {-12, -11, -9, -8, 6, 7, 8, 9, 12, 13};
        for (int i = 0; i < at.length; i++) {
            Check.due("below " + at[i], wide.below(0, 5, at[i], 1), counts[i]);
        }
        x.table(1, 3);
        Check.due("below 0 of 0 0 0", x.below(1, 3, 0, 7), 1);
        Check.due("below 1/50 of 0 0 0", x.below(1, 3, 1, 50), 2);
    }

    // Promise 29
    private static void root() {
        ChainTables x = Texts.withTable(2, THREE);
        int[] ones = {-4, 1, 4};
        int[] tenths = {-37, 15, 40};
        int[] fiftieths = {-182, 78, 202};
        for (int i = 0; i < 3; i++) {
            Check.due("root " + i, x.root(2, 3, i, 1), ones[i]);
            Check.due("root " + i, x.root(2, 3, i, 10), tenths[i]);
            Check.due("root " + i, x.root(2, 3, i, 50), fiftieths[i]);
        }
        Check.due("root of 2", x.root(2, 2, 0, 50), -150);
        Check.due("root of 2", x.root(2, 2, 1, 50), 100);
        Check.due("root of 1", x.root(2, 1, 0, 7), 7);
        Check.due("root i 3", x.root(2, 3, 3, 1), -100001);
        Check.due("root i -1", x.root(2, 3, -1, 1), -100001);
        Check.due("root i 2 of 2", x.root(2, 2, 2, 1), -100001);
        Check.due("root k 0", x.root(2, 0, 0, 1), -100001);
        Check.due("root k 4", x.root(2, 4, 0, 1), -100001);
        Check.due("root q 0", x.root(2, 3, 0, 0), -100001);
        Check.due("root q 51", x.root(2, 3, 0, 51), -100001);
        Check.due("root of 4", x.root(4, 1, 0, 1), -100001);
        Check.due("root of empty", x.root(0, 1, 0, 1), -100000);
        Check.due("root k 9 of empty", x.root(0, 9, 9, 1), -100000);
        Check.due("root q 51 of empty", x.root(0, 1, 0, 51), -100001);
        ChainTables wide = Texts.withTable(0, WIDE);
        int[] due = {-600, -425, 300, 424, 600};
        for (int i = 0; i < 5; i++) {
            Check.due("wide root " + i, wide.root(0, 5, i, 50), due[i]);
        }
        int[] before = {-571, -353, 352, 570};
        for (int i = 0; i < 4; i++) {
            Check.due("wide root of 4 " + i, wide.root(0, 4, i, 50), before[i]);
        }
    }

    // Promise 30
    private static void whole() {
        ChainTables x = Texts.withTable(2, THREE);
        Check.due("whole 3", x.whole(2, 3), 0);
        Check.due("whole 2", x.whole(2, 2), 2);
        Check.due("whole 1", x.whole(2, 1), 1);
        Check.due("whole 0", x.whole(2, 0), -1);
        Check.due("whole 4", x.whole(2, 4), -1);
        Check.due("whole of 4", x.whole(4, 1), -1);
        Check.due("whole of empty", x.whole(0, 1), -2);
        Check.due("whole 9 of empty", x.whole(0, 9), -2);
        ChainTables wide = Texts.withTable(0, WIDE);
        Check.due("wide whole 5", wide.whole(0, 5), 3);
        Check.due("wide whole 4", wide.whole(0, 4), 0);
        Check.due("wide whole 3", wide.whole(0, 3), 1);
    }

    // Promise 31
    private static void inverse() {
        ChainTables x = Texts.withTable(2, THREE);
        long[][] tops = {{11, 36, 20}, {36, -3, 5}, {20, 5, 6}};
        for (int i = 0; i < 3; i++) {
            for (int j = 0; j < 3; j++) {
                Check.due("inverse " + i + " " + j, x.inverse(2, i, j, 0), tops[i][j]);
                Check.due("inverse " + i + " " + j, x.inverse(2, i, j, 1), i == j ? 23 : 529);
            }
        }
        Check.due("inverse i 3", x.inverse(2, 3, 0, 0), NOTHING);
        Check.due("inverse j 3", x.inverse(2, 0, 3, 0), NOTHING);
        Check.due("inverse i -1", x.inverse(2, -1, 0, 0), NOTHING);
        Check.due("inverse j -1", x.inverse(2, 0, -1, 0), NOTHING);
        Check.due("inverse what 2", x.inverse(2, 0, 0, 2), NOTHING);
        Check.due("inverse what -1", x.inverse(2, 0, 0, -1), NOTHING);
        Check.due("inverse of empty", x.inverse(0, 0, 0, 0), NOTHING);
        Check.due("inverse of 4", x.inverse(4, 0, 0, 0), NOTHING);
        Texts.write(x, 1, "1 3/3");
        Check.due("inverse of 1 3/3", x.inverse(1, 0, 1, 0), -2);
        Check.due("inverse of 1 3/3", x.inverse(1, 0, 0, 1), -2);
        Check.due("inverse of 1 3/3, i 2", x.inverse(1, 2, 0, 1), NOTHING);
        ChainTables wide = Texts.withTable(0, WIDE);
        Check.due("wide inverse 0 4", wide.inverse(0, 0, 4, 1), 2304);
        Check.due("wide inverse 4 0", wide.inverse(0, 4, 0, 0), 1);
        Check.due("wide inverse 1 1", wide.inverse(0, 1, 1, 0), -1);
        Check.due("wide inverse 1 1", wide.inverse(0, 1, 1, 1), 16);
        x.table(3, 2);
        Check.due("inverse of 0 0/1", x.inverse(3, 1, 1, 0), 0);
        Check.due("inverse of 0 0/1", x.inverse(3, 1, 1, 1), 1);
        Check.due("inverse of 0 0/1", x.inverse(3, 0, 1, 0), 1);
    }

    // Promise 32
    private static void alike() {
        ChainTables x = Texts.withTable(0, "1 3/3");
        Texts.write(x, 1, "3 1/3");
        Texts.write(x, 2, "2 2/4");
        Texts.write(x, 3, "0/");
        Check.due("alike 0 1 0", x.alike(0, 1, 0), 1);
        Check.due("alike 0 2 0", x.alike(0, 2, 0), 1);
        Check.due("alike 0 3 0", x.alike(0, 3, 0), 0);
        Check.due("alike 0 1 1", x.alike(0, 1, 1), 1);
        Check.due("alike 0 2 1", x.alike(0, 2, 1), 0);
        Check.due("alike 0 0 1", x.alike(0, 0, 1), 0);
        Check.due("alike 2 2 1", x.alike(2, 2, 1), 1);
        Check.due("alike 0 3 1", x.alike(0, 3, 1), 0);
        Check.due("alike 0 1 2", x.alike(0, 1, 2), 2);
        Check.due("alike 0 3 2", x.alike(0, 3, 2), 1);
        Check.due("alike 3 0 2", x.alike(3, 0, 2), 1);
        Check.due("alike what 3", x.alike(0, 1, 3), -1);
        Check.due("alike what -1", x.alike(0, 1, -1), -1);
        Check.due("alike d 4", x.alike(4, 1, 0), -1);
        Check.due("alike e -1", x.alike(0, -1, 0), -1);
        Texts.write(x, 0, "1 2 3/4 5");
        Texts.write(x, 1, "3 2 1/5 4");
        Texts.write(x, 2, "3 2 1/4 5");
        Check.due("alike turned", x.alike(0, 1, 1), 1);
        Check.due("alike turned", x.alike(0, 1, 0), 1);
        Check.due("alike, C not turned", x.alike(0, 2, 1), 0);
        Check.due("alike, C not turned", x.alike(0, 2, 0), 0);
        Texts.write(x, 1, "1 2 3/4 6");
        Check.due("alike, another C", x.alike(0, 1, 0), 0);
        String[] almost = {"3 2 2/5 4", "2 2 1/5 4", "3 1 1/5 4", "3 2 1/5 5", "3 2 1/6 4"};
        for (String text : almost) {
            Texts.write(x, 1, text);
            Check.due("alike, not quite turned: " + text, x.alike(0, 1, 1), 0);
            Check.due("alike, not quite turned: " + text, x.alike(1, 0, 1), 0);
        }
        Texts.write(x, 1, "1 3/3");
        x.table(2, 2);
        x.table(3, 1);
        Check.due("alike, where one is 0", x.alike(3, 1, 0), 0);
        Check.due("alike, fewer rows", x.alike(3, 2, 0), 0);
        Check.due("alike, fewer rows", x.alike(3, 2, 1), 0);
        x.put(3, true, 0, 1);
        x.table(2, 1);
        Check.due("alike, 1 and 0", x.alike(3, 2, 0), 0);
        x.table(1, 3);
        x.table(3, 2);
        Texts.write(x, 0, "0 0 0/2 2");
        Check.due("roots -2, 0, 2 and -1.41 ..", x.alike(0, 1, 2), 1);
        Check.due("roots -2, 0, 2 and -1, 1", x.alike(0, 3, 2), 0);
        Texts.write(x, 0, "6 6/1");
        Texts.write(x, 1, "6 6 6/1 1");
        Check.due("roots 5, 7 and 4.58, 6, 7.41", x.alike(0, 1, 2), 0);
        ChainTables empty = Texts.withTable(0, "1 3/3");
        Check.due("alike, second empty", empty.alike(0, 1, 0), -2);
        Check.due("alike, first empty", empty.alike(1, 0, 2), -2);
        Check.due("alike, empty, what 3", empty.alike(1, 0, 3), -1);
        // Both have roots near 0 that a 50th does not tell apart.
        Texts.write(empty, 1, "0 6 0/1 1");
        Texts.write(empty, 2, "0 6 0/1 2");
        Check.due("roots cut alike", empty.alike(1, 2, 2), sameCuts(empty, 1, 2));
    }

    private static int sameCuts(ChainTables x, int d, int e) {
        int found = 0;
        for (int i = 0; i < x.told(d, true, -1); i++) {
            boolean same = false;
            for (int j = 0; j < x.told(e, true, -1); j++) {
                same |= x.root(d, x.told(d, true, -1), i, 50) == x.root(e, x.told(e, true, -1), j, 50);
            }
            found += same ? 1 : 0;
        }
        return found;
    }

    // Promise 33
    private static void between() {
        ChainTables x = Texts.withTable(0, "1 3/3");
        Texts.write(x, 1, "0/");
        Check.due("0 between 0 and 4", x.between(0, 1, 1), 1);
        x.put(1, true, 0, 4);
        Check.due("4 between 0 and 4", x.between(0, 1, 50), 1);
        x.put(1, true, 0, 5);
        Check.due("5 between 0 and 4", x.between(0, 1, 50), 0);
        x.put(1, true, 0, -1);
        Check.due("-1 between 0 and 4", x.between(0, 1, 7), 0);
        Check.due("between, a row more", x.between(1, 0, 7), -3);
        Check.due("between, itself", x.between(0, 0, 7), -3);
        Check.due("between, q 0", x.between(0, 1, 0), -1);
        Check.due("between, q 51", x.between(0, 1, 51), -1);
        Check.due("between, d 4", x.between(4, 1, 1), -1);
        Check.due("between, e -1", x.between(0, -1, 1), -1);
        Check.due("between, second empty", x.between(0, 2, 1), -2);
        Check.due("between, first empty", x.between(2, 0, 1), -2);
        Check.due("between, empty, q 0", x.between(2, 0, 0), -1);
        // Roots -2.44.. and 2.44.. of the second, -3, 0, 3 of the first.
        Texts.write(x, 2, "0 0 0/3 6");
        Texts.write(x, 3, "0 0/6");
        Check.due("between, of three", x.between(2, 3, 50), 1);
        x.put(3, false, 0, 9);
        Check.due("between, at its ends", x.between(2, 3, 50), 1);
        x.put(3, false, 0, 10);
        Check.due("between, beyond", x.between(2, 3, 50), 0);
        // -3.16.. cut is -4, 3.16.. cut is 3.
        Check.due("between, beyond, cut to ones", x.between(2, 3, 1), 0);
        Texts.write(x, 2, "0 0 0/4 5");
        Texts.write(x, 3, "0 0/9");
        Check.due("between, as far", x.between(2, 3, 1), 1);
        // Roots 1.38.. and 3.61.. of the first, 1 of the second: within the first one's cut.
        Texts.write(x, 2, "2 3/1");
        Texts.write(x, 1, "1/");
        Check.due("between, cut to ones", x.between(2, 1, 1), 1);
        Check.due("between, cut to halves", x.between(2, 1, 2), 1);
        Check.due("between, cut to thirds", x.between(2, 1, 3), 0);
    }

    // Promise 34
    private static void change() {
        ChainTables x = Texts.withTable(2, THREE);
        Check.due("turned round", x.change(2, 0), 3);
        Check.due("text", Texts.ofTable(x, 2), "3 -2 1/5 4");
        Check.due("one more", x.change(2, 1), 3);
        Check.due("text", Texts.ofTable(x, 2), "4 -1 2/5 4");
        Check.due("one less", x.change(2, 2), 3);
        x.change(2, 2);
        Check.due("text", Texts.ofTable(x, 2), "2 -3 0/5 4");
        Texts.write(x, 2, "1 2 3 4 5/6 7 8 9");
        Check.due("turned round", x.change(2, 0), 5);
        Check.due("text", Texts.ofTable(x, 2), "5 4 3 2 1/9 8 7 6");
        Check.due("without its last row", x.change(2, 3), 4);
        Check.due("text", Texts.ofTable(x, 2), "5 4 3 2/9 8 7");
        Check.due("without its first row", x.change(2, 4), 3);
        Check.due("text", Texts.ofTable(x, 2), "4 3 2/8 7");
        x.change(2, 1);
        Check.due("one more", x.change(2, 1), 3);
        Check.due("one more than 6", x.change(2, 1), -3);
        Check.due("it stays", Texts.ofTable(x, 2), "6 5 4/8 7");
        Texts.write(x, 2, "1 -6/3");
        Check.due("one less than -6", x.change(2, 2), -3);
        Check.due("it stays", Texts.ofTable(x, 2), "1 -6/3");
        Check.due("without its first row", x.change(2, 4), 1);
        Check.due("text", Texts.ofTable(x, 2), "-6/");
        Check.due("without any row", x.change(2, 4), -3);
        Check.due("without any row", x.change(2, 3), -3);
        Check.due("turned round", x.change(2, 0), 1);
        Check.due("how 5", x.change(2, 5), -1);
        Check.due("how -1", x.change(2, -1), -1);
        Check.due("d 4", x.change(4, 0), -1);
        Check.due("empty", x.change(0, 0), -2);
        Check.due("empty, how 5", x.change(0, 5), -1);
        x.table(1, 2);
        Check.due("without its last row", x.change(1, 3), 1);
        Texts.write(x, 1, "1 2 3 4 5/6 7 8 9");
        Check.due("without its first row", x.change(1, 4), 4);
        Check.due("text", Texts.ofTable(x, 1), "2 3 4 5/7 8 9");
    }

    // Promise 35
    private static void would() {
        ChainTables x = Texts.withTable(2, "1 -2 3/4 6");
        Check.due("would C1 5, 0", x.would(2, false, 1, 5, 0), 23);
        Check.due("would C1 5, 1", x.would(2, false, 1, 5, 1), -14);
        Check.due("would C1 5, 2", x.would(2, false, 1, 5, 2), -2);
        Check.due("would C1 5, 3", x.would(2, false, 1, 5, 3), 1);
        Check.due("would A0 -6, 2", x.would(2, true, 0, -6, 2), 5);
        Check.due("it stays", Texts.ofTable(x, 2), "1 -2 3/4 6");
        Check.due("would j 4", x.would(2, false, 1, 5, 4), NOTHING);
        Check.due("would j -1", x.would(2, false, 1, 5, -1), NOTHING);
        Check.due("would A 7", x.would(2, true, 0, 7, 0), NOTHING);
        Check.due("would A -7", x.would(2, true, 0, -7, 0), NOTHING);
        Check.due("would C 0", x.would(2, false, 0, 0, 0), NOTHING);
        Check.due("would C 37", x.would(2, false, 0, 37, 0), NOTHING);
        Check.due("would A3", x.would(2, true, 3, 0, 0), NOTHING);
        Check.due("would A-1", x.would(2, true, -1, 0, 0), NOTHING);
        Check.due("would C2", x.would(2, false, 2, 1, 0), NOTHING);
        Check.due("would of empty", x.would(0, true, 0, 0, 0), NOTHING);
        Check.due("would of 4", x.would(4, true, 0, 0, 0), NOTHING);
    }

    // Promise 36
    private static void walks() {
        ChainTables x = Texts.withTable(2, THREE);
        long[][] third = {{1, 12, 2}, {48, -25, 16}, {40, 80, 47}};
        long[][] eighth = {{9557, -881, 4561}, {-3524, 35005, 8241}, {91220, 41205, 57966}};
        long[][] first = {{1, 1, 0}, {4, -2, 1}, {0, 5, 3}};
        for (int i = 0; i < 3; i++) {
            for (int j = 0; j < 3; j++) {
                Check.due("walks 0", x.walks(2, 0, i, j), i == j ? 1 : 0);
                Check.due("walks 1", x.walks(2, 1, i, j), first[i][j]);
                Check.due("walks 3", x.walks(2, 3, i, j), third[i][j]);
                Check.due("walks 8", x.walks(2, 8, i, j), eighth[i][j]);
            }
        }
        Check.due("walks 9", x.walks(2, 9, 0, 0), NOTHING);
        Check.due("walks -1", x.walks(2, -1, 0, 0), NOTHING);
        Check.due("walks i 3", x.walks(2, 1, 3, 0), NOTHING);
        Check.due("walks j 3", x.walks(2, 1, 0, 3), NOTHING);
        Check.due("walks i -1", x.walks(2, 1, -1, 0), NOTHING);
        Check.due("walks j -1", x.walks(2, 1, 0, -1), NOTHING);
        Check.due("walks of empty", x.walks(0, 0, 0, 0), NOTHING);
        Check.due("walks of 4", x.walks(4, 0, 0, 0), NOTHING);
        Check.due("wide walks", Texts.withTable(0, WIDE).walks(0, 8, 4, 0), 76187381760L);
    }

    // Promise 37
    private static void powers() {
        ChainTables x = Texts.withTable(2, THREE);
        long[] due = {3, 2, 32, 23, 448, 482, 6707, 9858, 102528};
        for (int k = 0; k < 9; k++) {
            Check.due("powers " + k, x.powers(2, k), due[k]);
        }
        Check.due("powers 9", x.powers(2, 9), NOTHING);
        Check.due("powers -1", x.powers(2, -1), NOTHING);
        Check.due("powers of empty", x.powers(0, 0), NOTHING);
        Check.due("powers of 4", x.powers(4, 0), NOTHING);
        Check.due("wide powers", Texts.withTable(0, WIDE).powers(0, 8), 915390720);
        Check.due("powers 0 with a root 0", Texts.withTable(0, "0/").powers(0, 0), 1);
    }

    // Promise 38
    private static void strike() {
        ChainTables x = Texts.withTable(2, THREE);
        long[][] due = {{0, 0, 0}, {0, 1, 0}, {-1, 4, -5}, {-5, 24, -15}, {-28, 127, -100},
            {-150, 696, -520}, {-818, 3777, -2860}, {-4445, 20544, -15505}, {-24171, 111684, -84355}};
        for (int times = 0; times < 9; times++) {
            for (int i = 0; i < 3; i++) {
                Check.due("strike " + times, x.strike(2, 1, times, i), due[times][i]);
            }
        }
        Check.due("strike at 0", x.strike(2, 0, 2, 1), -4);
        Check.due("strike at 2", x.strike(2, 2, 2, 1), -1);
        Check.due("strike 9", x.strike(2, 1, 9, 0), NOTHING);
        Check.due("strike -1", x.strike(2, 1, -1, 0), NOTHING);
        Check.due("strike at 3", x.strike(2, 3, 1, 0), NOTHING);
        Check.due("strike at -1", x.strike(2, -1, 1, 0), NOTHING);
        Check.due("strike i 3", x.strike(2, 0, 1, 3), NOTHING);
        Check.due("strike i -1", x.strike(2, 0, 1, -1), NOTHING);
        Check.due("strike of empty", x.strike(0, 0, 0, 0), NOTHING);
        Check.due("strike of 4", x.strike(4, 0, 0, 0), NOTHING);
        Check.due("wide strike", Texts.withTable(0, WIDE).strike(0, 0, 8, 4), 2969561088L);
    }

    // Promise 39
    private static void draws() {
        ChainTables x = new ChainTables();
        Check.due("draws 5", x.draws(0, 5, 1), 30502);
        Check.due("drawn", Texts.ofTable(x, 0), "-1 3 -1 0 2/23 33 31 30");
        Check.due("draws 3", x.draws(1, 3, -1), 23968);
        Check.due("drawn", Texts.ofTable(x, 1), "1 6 0/7 17");
        Check.due("draws 1", x.draws(0, 1, 65536), 13849);
        Check.due("drawn", Texts.ofTable(x, 0), "-2/");
        Check.due("draws 2", x.draws(3, 2, 65535), 42250);
        Check.due("drawn", Texts.ofTable(x, 3), "1 6/15");
        Check.due("draws, lowest seed", x.draws(0, 1, LOWEST), 13849);
        Check.due("draws 0", x.draws(0, 0, 1), -1);
        Check.due("draws 6", x.draws(0, 6, 1), -1);
        Check.due("draws in 4", x.draws(4, 1, 1), -1);
        Check.due("draws in -1", x.draws(-1, 1, 1), -1);
        Check.due("it stays", Texts.ofTable(x, 0), "-2/");
    }

    // Promise 40
    private static void rivals() {
        rivalsOf("1 3/3", new int[] {6, 0, 10}, new int[] {11, -1, 8});
        rivalsOf(THREE, new int[] {0, 0, 1}, new int[] {-1, -1, 112});
        rivalsOf("2 2/1", new int[] {5, 1, 13}, new int[] {1004, 1004, 7});
        rivalsOf("-1 -1 2/5 1", new int[] {1, 1, 0}, new int[] {1108, 1108, -1});
        rivalsOf("0 4 6/11 8", new int[] {1, 1, 2}, new int[] {1130, 206, 11});
        rivalsOf("5/", new int[] {12, 1, 6}, new int[] {0, 6, 6});
        rivalsOf("2 2 2/1 1", new int[] {12, 3, 19}, new int[] {107, 107, 7});
        rivalsOf("6 6 4 4/4 7 4", new int[] {2, 3, 59}, new int[] {1116, 109, 8});
        rivalsOf("1 0 1 0 1/2 6 4 2", new int[] {7, 5, 0}, new int[] {1114, 5, -1});
        rivalsOf("1 0 1 0 1/2 6 4 3", new int[] {2, 2, 0}, new int[] {1302, 310, -1});
        // Of each, one rival has roots that are not whole and, cut, come to its whole ones.
        rivalsOf("0 0 2 0 0/3 1 1 1", new int[] {0, 3, 0}, new int[] {-1, 0, -1});
        rivalsOf("0 1 1 0 2/5 1 1 3", new int[] {0, 1, 0}, new int[] {-1, 403, -1});
        rivalsOf("-2 0 2 -2 0/1 1 3 2", new int[] {0, 82, 0}, new int[] {-1, 300, -1});
        ChainTables x = Texts.withTable(0, "5/");
        Check.due("rivals what 3", x.rivals(0, 3, false), -1);
        Check.due("rivals what -1", x.rivals(0, -1, true), -1);
        Check.due("rivals of 4", x.rivals(4, 0, false), -1);
        Check.due("rivals of empty", x.rivals(1, 0, false), -2);
        Check.due("rivals of empty, what 3", x.rivals(1, 3, false), -1);
    }

    private static void rivalsOf(String text, int[] counts, int[] firsts) {
        ChainTables x = Texts.withTable(3, text);
        for (int what = 0; what < 3; what++) {
            Check.due("rivals of " + text + ", " + what, x.rivals(3, what, false), counts[what]);
            Check.due("first rival of " + text + ", " + what, x.rivals(3, what, true), firsts[what]);
        }
        Check.due("it stays", Texts.ofTable(x, 3), text);
    }

    // Promise 41
    private static void census() {
        ChainTables x = new ChainTables();
        int[] sums = {-12, -3, 0, 5, 11, 12};
        int[][] due = {{6, 0, 1}, {38, 0, 2}, {44, 0, 0}, {32, 20, 4}, {10, 60, 2}, {6, 36, 1}};
        for (int i = 0; i < sums.length; i++) {
            for (int what = 0; what < 3; what++) {
                Check.due("census " + sums[i] + " " + what, x.census(sums[i], what), due[i][what]);
            }
        }
        Check.due("census 13", x.census(13, 0), -1);
        Check.due("census -13", x.census(-13, 0), -1);
        Check.due("census what 3", x.census(0, 3), -1);
        Check.due("census what -1", x.census(0, -1), -1);
        Check.due("drawers", x.count(1), 0);
    }

    // Promise 42
    private static void join() {
        ChainTables x = Texts.withTable(0, "1 2/3");
        Texts.write(x, 1, "4 5 6/7 8");
        Check.due("join", x.join(0, 1, 36), 5);
        Check.due("joined", Texts.ofTable(x, 0), "1 2 4 5 6/3 36 7 8");
        Check.due("the second stays", Texts.ofTable(x, 1), "4 5 6/7 8");
        Texts.write(x, 2, "0/");
        Check.due("join, too many", x.join(0, 2, 1), -3);
        Check.due("join, too many", x.join(1, 1, 1), -3);
        Check.due("it stays", Texts.ofTable(x, 0), "1 2 4 5 6/3 36 7 8");
        Check.due("join", x.join(2, 1, 1), 4);
        Check.due("joined", Texts.ofTable(x, 2), "0 4 5 6/1 7 8");
        Texts.write(x, 2, "5 -6/9");
        Check.due("join with itself", x.join(2, 2, 2), 4);
        Check.due("joined", Texts.ofTable(x, 2), "5 -6 5 -6/9 2 9");
        Check.due("join, C 0", x.join(2, 2, 0), -1);
        Check.due("join, C 37", x.join(2, 2, 37), -1);
        Check.due("join d 4", x.join(4, 1, 1), -1);
        Check.due("join e -1", x.join(1, -1, 1), -1);
        Check.due("join, first empty", x.join(3, 0, 1), -2);
        Check.due("join, second empty", x.join(0, 3, 1), -2);
        Check.due("join, empty, C 0", x.join(0, 3, 0), -1);
    }

    // Promise 43
    private static void nearest() {
        ChainTables x = Texts.withTable(2, THREE);
        Check.due("nearest in ones", x.nearest(2, 1), 3);
        Check.due("nearest in tenths", x.nearest(2, 10), 25);
        Check.due("nearest in 50ths", x.nearest(2, 50), 124);
        Check.due("nearest q 0", x.nearest(2, 0), -1);
        Check.due("nearest q 51", x.nearest(2, 51), -1);
        Check.due("nearest of 4", x.nearest(4, 1), -1);
        Check.due("nearest of empty", x.nearest(0, 1), -2);
        Check.due("nearest of empty, q 0", x.nearest(0, 0), -1);
        x.table(1, 1);
        Check.due("nearest of one", x.nearest(1, 1), -3);
        Texts.write(x, 0, "6 -6 6/1 1");
        Check.due("nearest, cut together", x.nearest(0, 5), 0);
        Texts.write(x, 0, "-1 2 -3/4 5");
        Check.due("nearest, the first two", x.nearest(0, 10), 25);
        Texts.write(x, 0, "0 0 0 0/1 36 1");
        Check.due("nearest, in the middle", x.nearest(0, 50), 17);
        Check.due("wide nearest", Texts.withTable(0, WIDE).nearest(0, 50), 124);
    }
}
