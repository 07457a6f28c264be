/** Promises 44 to 50: ALL TABLES, what is heard, what is kept. */
public final class AllTablesTest {
    public static void main(String[] args) {
        all();
        lay();
        unique();
        some();
        heard();
        keep();
        undo();
        Check.end();
    }

    // Promise 44
    private static void all() {
        Check.due("all without", new ChainTables().all(), -1);
        Check.due("all of one", Texts.withTones("5/").all(), 1);
        Check.due("all of one, 6", Texts.withTones("6/").all(), 1);
        Check.due("all of one, -6", Texts.withTones("-6/").all(), 1);
        Check.due("all of two", Texts.withTones("2 6/3").all(), 3);
        Check.due("all of two, wide", Texts.withTones("-6 6/0").all(), 11);
        Check.due("all of three", Texts.withTones("1 4 6/2 5").all(), 7);
        Check.due("all of three, wide", Texts.withTones("-6 0 6/-3 3").all(), 43);
        Check.due("all of four", Texts.withTones("0 2 4 6/1 3 5").all(), -2);
    }

    // Promise 45
    private static void lay() {
        ChainTables x = new ChainTables();
        Check.due("lay without", x.lay(0, 0), -1);
        Texts.tones(x, "1 4 6/2 5");
        String[] due = {"3 3 5/3 2", "4 3 4/1 5", "4 3 4/2 4", "4 3 4/3 3", "4 3 4/4 2", "4 3 4/5 1", "5 3 3/2 3"};
        for (int k = 0; k < 7; k++) {
            Check.due("lay " + k, x.lay(k, k % 4), 3);
            Check.due("laid " + k, Texts.ofTable(x, k % 4), due[k]);
        }
        Check.due("lay 7", x.lay(7, 0), -3);
        Check.due("lay highest", x.lay(Integer.MAX_VALUE, 0), -3);
        Check.due("lay -1", x.lay(-1, 0), -1);
        Check.due("lay in 4", x.lay(0, 4), -1);
        Check.due("lay in -1", x.lay(0, -1), -1);
        Check.due("it stays", Texts.ofTable(x, 0), "4 3 4/4 2");
        Texts.tones(x, "-6 6/0");
        String[] two = {"-5 5/11", "-4 4/20", "-3 3/27", "-2 2/32", "-1 1/35", "0 0/36", "1 -1/35"};
        for (int k = 0; k < 7; k++) {
            Check.due("lay of two " + k, x.lay(k, 1), 2);
            Check.due("laid of two " + k, Texts.ofTable(x, 1), two[k]);
        }
        Texts.tones(x, "-6/");
        Check.due("lay of one", x.lay(0, 1), 1);
        Check.due("laid of one", Texts.ofTable(x, 1), "-6/");
        Check.due("lay of one 1", x.lay(1, 1), -3);
        Texts.tones(x, "0 2 4 6/1 3 5");
        Check.due("lay of four", x.lay(0, 0), -2);
        Check.due("lay of four in 4", x.lay(0, 4), -1);
    }

    // Promise 46
    private static void unique() {
        Check.due("unique without", new ChainTables().unique(), -1);
        Check.due("unique of one", Texts.withTones("5/").unique(), 1);
        Check.due("unique of two", Texts.withTones("2 6/3").unique(), 1);
        Check.due("unique of three", Texts.withTones("1 4 6/2 5").unique(), 1);
        Check.due("unique of three, wide", Texts.withTones("-6 0 6/-1 1").unique(), 1);
        Check.due("unique of three, not whole", Texts.withTones("-6 0 5/-1 1").unique(), 0);
        Check.due("unique of four", Texts.withTones("0 2 4 6/1 3 5").unique(), -2);
    }

    // Promise 47
    private static void some() {
        ChainTables x = new ChainTables();
        Check.due("some without", x.some(0, 0), -1);
        Texts.tones(x, "1 4 6/2 5");
        Check.due("some 0", x.some(0, 9), 1);
        Check.due("some 1 with 4", x.some(1, 4), 5);
        Check.due("some 1 with 5", x.some(1, 5), 1);
        Check.due("some 1 with 99", x.some(1, 99), 0);
        Check.due("some 2 with 2", x.some(2, 2), 2);
        Check.due("some 2 with 3", x.some(2, 3), 2);
        Check.due("some 2 with 4", x.some(2, 4), 1);
        Check.due("some 3", x.some(3, -9), 1);
        Check.due("some 4", x.some(4, 0), -1);
        Check.due("some 5", x.some(5, 0), -1);
        Check.due("some -1", x.some(-1, 0), -1);
        Texts.tones(x, "-6 0 6/-3 3");
        Check.due("some 0, wide", x.some(0, 0), 1);
        Check.due("some 1 with 0, wide", x.some(1, 0), 35);
        Check.due("some 2 with 16, wide", x.some(2, 16), 5);
        Check.due("some 3, wide", x.some(3, 0), 5);
        Texts.tones(x, "-6 6/0");
        Check.due("some 2 of two", x.some(2, 35), 2);
        Check.due("some 2 of two", x.some(2, 36), 1);
        Check.due("some 2 of two", x.some(2, 1), 0);
        Check.due("some 3 of two", x.some(3, 0), 11);
        Texts.tones(x, "5/");
        Check.due("some 0 of one", x.some(0, 0), 1);
        Check.due("some 1 of one", x.some(1, 5), 1);
        Check.due("some 2 of one", x.some(2, 1), 0);
        Check.due("some 3 of one", x.some(3, 0), 1);
        Texts.tones(x, "0 2 4 6/1 3 5");
        Check.due("some of four", x.some(0, 0), -2);
        Check.due("some 4 of four", x.some(4, 0), -1);
    }

    // Promise 48
    private static void heard() {
        ChainTables x = Texts.withTones("5/");
        Texts.write(x, 0, "4 3 4/4 2");
        Check.due("heard", x.heard(0), 3);
        Check.due("heard", Texts.ofTones(x), "1 4 6/2 5");
        Texts.write(x, 0, "3 3 5/3 2");
        Check.due("M not whole", x.heard(0), -3);
        Texts.write(x, 0, "1 -2 3/4 5");
        Check.due("L not whole", x.heard(0), -3);
        Check.due("they stay", Texts.ofTones(x), "1 4 6/2 5");
        Texts.write(x, 1, "0 0/36");
        Check.due("heard of two", x.heard(1), 2);
        Check.due("heard of two", Texts.ofTones(x), "-6 6/0");
        Texts.write(x, 1, "1 1/36");
        Check.due("beyond 6", x.heard(1), -3);
        Texts.write(x, 1, "-1 -1/36");
        Check.due("beyond -6", x.heard(1), -3);
        Texts.write(x, 1, "-4/");
        Check.due("heard of one", x.heard(1), 1);
        Check.due("heard of one", Texts.ofTones(x), "-4/");
        Texts.write(x, 2, "0 0 0 0/9 2 4");
        Check.due("of four, not whole", x.heard(2), -3);
        Texts.write(x, 2, "0 0 0 0 0/1 1 1 1");
        Check.due("of five", x.heard(2), -3);
        Check.due("empty", x.heard(3), -2);
        Check.due("d 4", x.heard(4), -1);
        Check.due("d -1", x.heard(-1), -1);
        Check.due("they stay", Texts.ofTones(x), "-4/");
        Texts.write(x, 2, "0 0 0 0/12 22 3");
        Check.due("of four", x.heard(2), 4);
        Check.due("of four", Texts.ofTones(x), "-6 -1 1 6/-5 0 5");
        Texts.write(x, 2, "3 -2 3 -2/16 5 9");
        Check.due("of four", x.heard(2), 4);
        Check.due("of four", Texts.ofTones(x), "-5 -3 4 6/-4 -2 5");
        Texts.write(x, 2, "3 3 3 3/5 3 1");
        Check.due("of four, not whole", x.heard(2), -3);
        Texts.write(x, 2, "4 -1 4 -1/16 5 9");
        Check.due("of four, beyond 6", x.heard(2), -3);
        Check.due("they stay", Texts.ofTones(x), "-5 -3 4 6/-4 -2 5");
    }

    // Promise 49
    private static void keep() {
        ChainTables x = new ChainTables();
        for (int times = 1; times <= 8; times++) {
            x.draws(times % 4, times % 5 + 1, times);
            Check.due("keep " + times, x.keep(), times);
        }
        Check.due("keep 9", x.keep(), -1);
        Check.due("kept", x.count(3), 8);
    }

    // Promise 50
    private static void undo() {
        ChainTables x = new ChainTables();
        Check.due("undo without", x.undo(), -1);
        x.keep();
        Texts.tones(x, "1 4 6/2 5");
        Texts.write(x, 1, "1 -2 3/4 5");
        x.keep();
        Texts.tones(x, "-6/");
        x.change(1, 3);
        x.table(3, 5);
        x.feed(1, 2, 3, 4, 5);
        Check.due("undo", x.undo(), 1);
        Check.due("tones", Texts.ofTones(x), "1 4 6/2 5");
        Check.due("table", Texts.ofTable(x, 1), "1 -2 3/4 5");
        Check.due("drawers", x.count(1), 2);
        Check.due("the tape is not kept", x.count(2), 20);
        x.mirror();
        x.put(1, true, 0, 6);
        Check.due("keep", x.keep(), 2);
        x.mirror();
        x.put(1, true, 0, 5);
        Check.due("undo", x.undo(), 1);
        Check.due("tones", Texts.ofTones(x), "-6 -4 -1/-5 -2");
        Check.due("table", Texts.ofTable(x, 1), "6 -2 3/4 5");
        Check.due("undo", x.undo(), 0);
        Check.due("tones", x.count(0), 0);
        Check.due("drawers", x.count(1), 0);
        Check.due("undo", x.undo(), -1);
        Check.due("kept", x.count(3), 0);
        for (int d = 0; d < 4; d++) {
            x.table(d, d + 1);
        }
        x.keep();
        for (int d = 0; d < 4; d++) {
            x.draws(d, 5, d);
        }
        x.undo();
        for (int d = 0; d < 4; d++) {
            Check.due("drawer " + d, x.told(d, true, -1), d + 1);
            Check.due("drawer " + d, x.told(d, true, d), 0);
        }
    }
}
