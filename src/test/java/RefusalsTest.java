import java.util.Arrays;

/**
 * What is refused, by which of several reasons, and that nothing is changed by it: behind each call
 * all that can be asked is as if the call had not been. Only a FAULT takes the tape.
 */
public final class RefusalsTest {
    private static final long NOTHING = Long.MIN_VALUE;
    private static final int LOWEST = Integer.MIN_VALUE;
    private static final int HIGHEST = Integer.MAX_VALUE;
    private static final String FOUR = "-6 -1 3 6/-3 0 5";

    /** A state to begin from. */
    private enum From {
        /** Nothing but a tape of twenty bytes, one L and "/" among them. */
        NEW,
        /** Three L, L0 above 0. Drawers of five rows, three rows, one row, and an empty one; two states are kept. */
        THREE,
        /** As THREE, but with two L, L0 is 0. */
        ZERO,
        /** As THREE, but with four L. */
        FOUR,
        /** As THREE, with 120 bytes on the tape and eight states kept. */
        FULL;

        Both begin() {
            Both x = new Both();
            if (this != NEW) {
                x.tones("-3 0/-1").write(0, "1/").call("keep");
                x.tones(this == ZERO ? "0 2/1" : this == FOUR ? RefusalsTest.FOUR : "1 4 6/2 5");
                x.write(0, "6 -6 6 -6 6/36 36 36 36").write(1, "1 3 1/2 1").write(2, "5/").call("keep");
            }
            for (int times = 0; this == FULL && times < 6; times++) {
                x.call("change", 1, times % 2);
                x.call("keep");
            }
            if (this == FULL) {
                x.call("write", 0, 0);
                x.feed("0 4 /2" + " ".repeat(114));
            } else {
                x.feed("-4/");
            }
            return x;
        }
    }

    public static void main(String[] args) {
        newObject();
        tape();
        faults();
        ofTones();
        chains();
        drawers();
        roots();
        twoDrawers();
        changes();
        allTables();
        heard();
        kept();
        asked();
        Check.end();
    }

    private static void refused(From from, long due, String name, Object... arguments) {
        Both x = from.begin();
        String call = from + ": " + name + Arrays.toString(arguments);
        Check.due(call, x.call(name, arguments), due);
        Check.due(call + " leaves all as it was", x.everything(), from.begin().everything());
    }

    // Promise 1, and "no TONES", "empty" of every promise
    private static void newObject() {
        Both x = new Both();
        Check.due("a new object", x.everything(), "0 bytes, 0 kept; 0 L 0 drawers , , , , ; tape -1; 0 L 0 drawers , , , , "
                + "; undone -1; 0 L 0 drawers , , , , ".repeat(9));
        for (int what = 0; what < 2; what++) {
            refused(From.NEW, NOTHING, "polynomial", what == 0, 0);
            refused(From.NEW, NOTHING, "weight", 0, what);
            refused(From.NEW, NOTHING, "determinant", 0, what);
            refused(From.NEW, NOTHING, "entry", what == 0, 0, 0);
            refused(From.NEW, NOTHING, "ortho", 0, 0, what);
            refused(From.NEW, NOTHING, "fraction", 1, 0, what);
            refused(From.NEW, NOTHING, "fraction", 0, 0, what);
            refused(From.NEW, NOTHING, "chain", what, 0, 0);
            refused(From.NEW, NOTHING, "mass", what);
            refused(From.NEW, NOTHING, "weighed", 0, what);
            refused(From.NEW, NOTHING, "kernel", 0, what);
            refused(From.NEW, -1, "tune", what == 0, 0, 0);
        }
        refused(From.NEW, NOTHING, "moment", 0);
        refused(From.NEW, NOTHING, "apart");
        refused(From.NEW, -1, "letter", -1);
        refused(From.NEW, -1, "letter", 0);
        refused(From.NEW, -1, "mirror");
        refused(From.NEW, -1, "shift", 0);
        refused(From.NEW, -1, "all");
        refused(From.NEW, -1, "lay", 0, 0);
        refused(From.NEW, -1, "unique");
        for (int what = 0; what < 4; what++) {
            refused(From.NEW, -1, "some", what, 0);
        }
        refused(From.NEW, -1, "undo");
        for (int d = 0; d < 4; d++) {
            emptyDrawer(From.NEW, d);
        }
        emptyDrawer(From.THREE, 3);
    }

    /** Of a table that is not there no k and no i is asked. */
    private static void emptyDrawer(From from, int d) {
        int[] any = {0, 1, -1, -2, 5, 99, LOWEST, HIGHEST};
        for (int k : any) {
            refused(from, k < -1 ? -1 : -2, "read", d, k);
            for (int i : any) {
                refused(from, -100, "put", d, i > 0, k, i);
                refused(from, -100000, "root", d, k, i, 50);
            }
            refused(from, -100, "told", d, k > 0, k);
            refused(from, NOTHING, "number", d, k, 0);
            refused(from, NOTHING, "value", d, k, 0);
            refused(from, -2, "below", d, k, 1000, 50);
            refused(from, -2, "whole", d, k);
            refused(from, NOTHING, "inverse", d, k, k, 0);
            refused(from, NOTHING, "would", d, true, k, 0, 0);
            refused(from, NOTHING, "walks", d, 0, k, k);
            refused(from, NOTHING, "powers", d, k);
            refused(from, NOTHING, "strike", d, k, 0, k);
        }
        for (int what = 0; what < 3; what++) {
            refused(from, -2, "alike", d, d, what);
            refused(from, -2, "rivals", d, what, true);
            refused(from, -2, "rivals", d, what, false);
        }
        for (int how = 0; how < 5; how++) {
            refused(from, -2, "change", d, how);
        }
        refused(from, -2, "between", d, d, 1);
        refused(from, -2, "join", d, d, 1);
        refused(from, -2, "nearest", d, 1);
        refused(from, -2, "heard", d);
    }

    // Promises 2, 3, 22: the tape stays
    private static void tape() {
        refused(From.FULL, -1, "feed", 0x312f2020, 0, 0, 0, 0);
        refused(From.FULL, -1, "feed", -1, -1, -1, -1, -1);
        int[] none = {0, -1, 61, 120, 121, LOWEST, HIGHEST};
        for (int n : none) {
            refused(From.FULL, -1, "tones", n);
            refused(From.FULL, -1, "write", 1, n);
            refused(From.FULL, -1, "write", 3, n);
        }
        refused(From.THREE, -1, "tones", 21);
        refused(From.THREE, -1, "write", 0, 21);
        refused(From.THREE, -1, "tones", 60);
        refused(From.THREE, -1, "write", 0, 60);
        for (int d : new int[] {-1, 4, LOWEST, HIGHEST}) {
            refused(From.THREE, -1, "write", d, 3);
            refused(From.NEW, -1, "write", d, 3);
            refused(From.FULL, -1, "write", d, 60);
        }
        Both x = new Both();
        for (int n : none) {
            Check.due("tones(" + n + ") of an empty tape", x.call("tones", n), -1);
            Check.due("write(0, " + n + ") of an empty tape", x.call("write", 0, n), -1);
        }
        Check.due("tones(1) of an empty tape", x.call("tones", 1), -1);
        Check.due("write(0, 1) of an empty tape", x.call("write", 0, 1), -1);
    }

    /** A FAULT takes the tape, all of it; TONES, the DRAWER and what is kept stay. */
    private static void faults() {
        String[] texts = {"/", "7/", "-6 -4 -2 0 2/", "1 1/", "0 2/2", "1", " "};
        int[] ofTones = {-1000, -2000, -3011, -4002, -5004, -1001, -1001};
        String[] tables = {"/", "7/", "-6 -4 -2 0 2 1/", "1 1/0", "0 2/2 3", "1", " "};
        int[] ofTables = {-1000, -2000, -3013, -2004, -3006, -1001, -1001};
        for (From from : From.values()) {
            for (int i = 0; i < texts.length; i++) {
                fault(from, texts[i], ofTones[i], true);
                fault(from, tables[i], ofTables[i], false);
            }
        }
    }

    private static void fault(From from, String text, int due, boolean ofTones) {
        Both x = emptied(from);
        String before = stateOf(emptied(from).everything());
        x.feed(text);
        x.feed("0 2/1");
        String call = from + ": the fault of \"" + text + "\"";
        long answer = ofTones ? x.call("tones", text.length()) : x.call("write", from == From.NEW ? 2 : 1, text.length());
        Check.due(call, answer, due);
        Check.due(call + " takes the tape", x.call("count", 2), 0);
        Check.due(call + " leaves all else as it was", stateOf(x.everything()), before);
    }

    /** The state with nothing on the tape: what lay there was a TEXT with a FAULT. */
    private static Both emptied(From from) {
        Both x = from.begin();
        x.feed("x");
        x.call("tones", (int) Math.min(2, x.call("count", 2)));
        return x;
    }

    private static String stateOf(String everything) {
        return everything.substring(everything.indexOf(','));
    }

    // Promises 5 to 11, 14 to 20
    private static void ofTones() {
        refused(From.THREE, NOTHING, "fraction", 4, 21, 0);
        refused(From.FOUR, NOTHING, "fraction", 4, 0, 2);
        refused(From.FOUR, -2, "fraction", 4, 0, 0);
        refused(From.FOUR, -2, "fraction", 4, 0, 1);
        refused(From.FOUR, NOTHING, "fraction", 5, 0, 0);
        refused(From.THREE, NOTHING, "entry", false, 2, 0);
        refused(From.THREE, -3, "letter", 9);
        refused(From.THREE, -3, "letter", HIGHEST);
        refused(From.THREE, -1, "letter", -2);
        refused(From.THREE, -3, "shift", 1);
        refused(From.THREE, -3, "shift", 12);
        refused(From.THREE, -3, "shift", -8);
        refused(From.THREE, -3, "shift", -12);
        refused(From.THREE, -1, "shift", 13);
        refused(From.THREE, -1, "shift", -13);
        refused(From.THREE, -1, "shift", HIGHEST);
        refused(From.THREE, -1, "shift", LOWEST);
        int[][] upper = {{0, 2}, {0, 3}, {0, 6}, {1, -6}, {1, 1}, {1, 2}, {1, 5}, {1, 6}, {2, 5}, {2, 4}, {2, -6}};
        for (int[] one : upper) {
            refused(From.THREE, -3, "tune", true, one[0], one[1]);
        }
        int[][] lower = {{0, 1}, {0, 0}, {0, 4}, {0, 5}, {1, 4}, {1, 3}, {1, 2}, {1, 6}, {1, -6}};
        for (int[] one : lower) {
            refused(From.THREE, -3, "tune", false, one[0], one[1]);
        }
        refused(From.THREE, -1, "tune", true, 3, 6);
        refused(From.THREE, -1, "tune", false, 2, 6);
        refused(From.THREE, -1, "tune", true, 0, 7);
        refused(From.THREE, -1, "tune", true, 0, -7);
        refused(From.THREE, -1, "tune", false, 0, 7);
        refused(From.THREE, -1, "tune", false, 1, -7);
    }

    // Promises 12, 13: Long.MIN_VALUE comes ahead of -2
    private static void chains() {
        for (int what = 0; what < 2; what++) {
            for (int kind = 0; kind < 2; kind++) {
                for (int i = 0; i < 4; i++) {
                    refused(From.FOUR, -2, "chain", kind, i, what);
                    refused(From.ZERO, i < 2 ? -2 : NOTHING, "chain", kind, i, what);
                }
                refused(From.FOUR, NOTHING, "chain", kind, 4, what);
                refused(From.FOUR, NOTHING, "chain", kind, -1, what);
                refused(From.THREE, NOTHING, "chain", kind, 3, what);
            }
            refused(From.FOUR, NOTHING, "chain", 2, 0, what);
            refused(From.ZERO, NOTHING, "chain", -1, 0, what);
            refused(From.ZERO, NOTHING, "chain", 0, 0, 2 + what);
            refused(From.FOUR, -2, "mass", what);
            refused(From.ZERO, -2, "mass", what);
        }
        refused(From.FOUR, NOTHING, "mass", 2);
        refused(From.ZERO, NOTHING, "mass", -1);
        refused(From.NEW, NOTHING, "mass", 2);
    }

    // Promises 21 to 27, 31, 35 to 39
    private static void drawers() {
        refused(From.THREE, 0, "table", 4, 1);
        refused(From.THREE, 0, "table", -1, 5);
        refused(From.THREE, 0, "table", 0, 0);
        refused(From.THREE, 0, "table", 3, 6);
        refused(From.THREE, -1, "draws", 4, 1, 0);
        refused(From.THREE, -1, "draws", 0, 0, 0);
        refused(From.THREE, -1, "draws", 3, 6, 0);
        refused(From.THREE, -1, "read", 4, -1);
        refused(From.THREE, -1, "read", 3, -2);
        refused(From.THREE, -2, "read", 3, -1);
        refused(From.THREE, -2, "read", 3, HIGHEST);
        refused(From.THREE, -3, "read", 0, 23);
        refused(From.THREE, -3, "read", 2, 2);
        refused(From.THREE, -1, "read", 2, -2);
        refused(From.THREE, -99, "put", 4, true, 0, 7);
        refused(From.THREE, -99, "put", 0, true, 5, 7);
        refused(From.THREE, -99, "put", 0, false, 4, 0);
        refused(From.THREE, -99, "put", 0, true, -1, 0);
        refused(From.THREE, -99, "put", 2, false, 0, 1);
        refused(From.THREE, -101, "put", 0, true, 4, 7);
        refused(From.THREE, -101, "put", 0, true, 4, -7);
        refused(From.THREE, -101, "put", 0, false, 3, 0);
        refused(From.THREE, -101, "put", 0, false, 3, 37);
        refused(From.THREE, -101, "put", 0, false, 0, -1);
        refused(From.THREE, -99, "told", 4, true, -1);
        refused(From.THREE, -99, "told", 0, true, -2);
        refused(From.THREE, -99, "told", 0, true, 5);
        refused(From.THREE, -99, "told", 0, false, 4);
        for (int i = 0; i < 3; i++) {
            for (int j = 0; j < 3; j++) {
                refused(From.THREE, -2, "inverse", 1, i, j, 0);
                refused(From.THREE, -2, "inverse", 1, i, j, 1);
            }
        }
        refused(From.THREE, NOTHING, "inverse", 1, 3, 0, 0);
        refused(From.THREE, NOTHING, "inverse", 1, 0, -1, 0);
        refused(From.THREE, NOTHING, "inverse", 1, 0, 0, 2);
        refused(From.THREE, NOTHING, "would", 0, true, 0, 7, 0);
        refused(From.THREE, NOTHING, "would", 0, false, 0, 37, 0);
        refused(From.THREE, NOTHING, "would", 0, false, 0, 0, 0);
    }

    // Promises 28 to 30, 40, 41, 43: NONE (or -100001) comes ahead of "empty"
    private static void roots() {
        refused(From.THREE, -1, "below", 3, 1, 1001, 1);
        refused(From.THREE, -1, "below", 3, 1, -1001, 1);
        refused(From.THREE, -1, "below", 3, 1, 0, 0);
        refused(From.THREE, -1, "below", 3, 1, 0, 51);
        refused(From.THREE, -2, "below", 3, 0, 0, 1);
        refused(From.THREE, -1, "below", 0, 0, 0, 1);
        refused(From.THREE, -1, "below", 0, 6, 0, 1);
        refused(From.THREE, -1, "below", 4, 1, 0, 1);
        refused(From.THREE, -100001, "root", 3, 1, 0, 0);
        refused(From.THREE, -100001, "root", 3, 1, 0, 51);
        refused(From.THREE, -100000, "root", 3, 0, -1, 50);
        refused(From.THREE, -100001, "root", 0, 5, 5, 50);
        refused(From.THREE, -100001, "root", 0, 1, 1, 50);
        refused(From.THREE, -100001, "root", -1, 1, 0, 50);
        refused(From.THREE, -2, "whole", 3, 0);
        refused(From.THREE, -1, "whole", 1, 0);
        refused(From.THREE, -1, "whole", 1, 4);
        refused(From.THREE, -1, "whole", 4, 1);
        refused(From.THREE, -1, "rivals", 3, 3, true);
        refused(From.THREE, -1, "rivals", 3, -1, false);
        refused(From.THREE, -1, "rivals", 4, 0, false);
        refused(From.THREE, -1, "census", 13, 0);
        refused(From.THREE, -1, "census", -13, 2);
        refused(From.THREE, -1, "census", 0, 3);
        refused(From.THREE, -1, "nearest", 3, 0);
        refused(From.THREE, -1, "nearest", 2, 51);
        refused(From.THREE, -2, "nearest", 3, 50);
        refused(From.THREE, -3, "nearest", 2, 50);
        refused(From.THREE, -3, "nearest", 2, 1);
    }

    // Promises 32, 33, 42
    private static void twoDrawers() {
        refused(From.THREE, -1, "alike", 3, 0, 3);
        refused(From.THREE, -1, "alike", 3, 4, 0);
        refused(From.THREE, -1, "alike", -1, 3, 0);
        refused(From.THREE, -2, "alike", 0, 3, 0);
        refused(From.THREE, -2, "alike", 3, 0, 2);
        refused(From.THREE, -1, "between", 3, 0, 0);
        refused(From.THREE, -1, "between", 0, 1, 51);
        refused(From.THREE, -1, "between", 3, 4, 1);
        refused(From.THREE, -2, "between", 0, 3, 1);
        refused(From.THREE, -2, "between", 3, 0, 1);
        refused(From.THREE, -2, "between", 2, 3, 1);
        refused(From.THREE, -3, "between", 0, 1, 1);
        refused(From.THREE, -3, "between", 0, 0, 50);
        refused(From.THREE, -3, "between", 2, 1, 1);
        refused(From.THREE, -1, "join", 3, 0, 0);
        refused(From.THREE, -1, "join", 0, 0, 37);
        refused(From.THREE, -1, "join", 0, 4, 1);
        refused(From.THREE, -2, "join", 0, 3, 1);
        refused(From.THREE, -2, "join", 3, 0, 36);
        refused(From.THREE, -3, "join", 0, 2, 1);
        refused(From.THREE, -3, "join", 2, 0, 36);
        refused(From.THREE, -3, "join", 1, 1, 1);
    }

    // Promise 34
    private static void changes() {
        refused(From.THREE, -1, "change", 3, 5);
        refused(From.THREE, -1, "change", 0, -1);
        refused(From.THREE, -1, "change", 4, 0);
        refused(From.THREE, -3, "change", 0, 1);
        refused(From.THREE, -3, "change", 0, 2);
        refused(From.THREE, -3, "change", 2, 3);
        refused(From.THREE, -3, "change", 2, 4);
    }

    // Promises 44 to 47: of four L
    private static void allTables() {
        refused(From.FOUR, -2, "all");
        refused(From.FOUR, -2, "unique");
        refused(From.FOUR, -2, "lay", 0, 0);
        refused(From.FOUR, -2, "lay", HIGHEST, 3);
        refused(From.FOUR, -1, "lay", -1, 0);
        refused(From.FOUR, -1, "lay", 0, 4);
        refused(From.NEW, -1, "lay", -1, 4);
        for (int what = 0; what < 4; what++) {
            refused(From.FOUR, -2, "some", what, 0);
        }
        refused(From.FOUR, -1, "some", 4, 0);
        refused(From.FOUR, -1, "some", -1, 0);
        refused(From.THREE, -3, "lay", 7, 0);
        refused(From.THREE, -3, "lay", HIGHEST, 3);
        refused(From.THREE, -1, "lay", -1, 0);
        refused(From.THREE, -1, "lay", LOWEST, 0);
        refused(From.THREE, -1, "lay", 7, 4);
        refused(From.ZERO, -3, "lay", 1, 0);
    }

    // Promise 48
    private static void heard() {
        refused(From.THREE, -1, "heard", 4);
        refused(From.THREE, -1, "heard", -1);
        refused(From.THREE, -2, "heard", 3);
        refused(From.THREE, -3, "heard", 0);
        refused(From.THREE, -3, "heard", 1);
    }

    // Promises 49, 50
    private static void kept() {
        refused(From.FULL, -1, "keep");
        refused(From.NEW, -1, "undo");
        Both x = From.FULL.begin();
        for (int left = 7; left >= 0; left--) {
            Check.due("undo", x.call("undo"), left);
        }
        Check.due("undo of none", x.call("undo"), -1);
        Check.due("the tape stays", x.call("count", 2), 120);
    }

    /** Calls that answer and ask only: they leave all as it was, too. */
    private static void asked() {
        Object[][] calls = {{"count", 0}, {"polynomial", true, 3}, {"moment", 7}, {"weight", 2, 0}, {"determinant", 3, 1},
            {"entry", true, 2, 0}, {"ortho", 3, 1, 1}, {"fraction", 3, 20, 0}, {"chain", 0, 0, 1}, {"mass", 0},
            {"weighed", 7, 0}, {"kernel", 8, 0}, {"apart"}, {"letter", 0}, {"read", 0, 22}, {"told", 0, true, -1},
            {"number", 0, 5, 5}, {"value", 0, 5, 20}, {"below", 0, 5, 0, 1}, {"root", 0, 5, 4, 50}, {"whole", 0, 5},
            {"inverse", 0, 4, 0, 1}, {"alike", 0, 1, 2}, {"alike", 1, 1, 0}, {"alike", 1, 0, 1}, {"would", 0, true, 0, 0, 0},
            {"would", 1, false, 1, 36, 0}, {"walks", 0, 8, 4, 4}, {"powers", 0, 8}, {"strike", 0, 4, 8, 0},
            {"rivals", 0, 0, false}, {"rivals", 0, 2, true}, {"rivals", 2, 1, true}, {"census", 12, 0}, {"nearest", 0, 50},
            {"all"}, {"unique"}, {"some", 0, 0}, {"some", 3, 0}, {"shift", 0}, {"tune", true, 0, 1}, {"tune", false, 1, 5}};
        for (From from : new From[] {From.THREE, From.FULL}) {
            String before = from.begin().everything();
            for (Object[] call : calls) {
                Both x = from.begin();
                String name = (String) call[0];
                Object[] arguments = Arrays.copyOfRange(call, 1, call.length);
                Check.due(name + " answers", x.call(name, arguments) > -1000000000000L, true);
                Check.due(from + ": " + name + Arrays.toString(arguments) + " leaves all as it was", x.everything(), before);
            }
        }
    }
}
