/** Promises 3 and 22: every short text, and every few numbers, read by the program and by the oracle. */
public final class TextsTest {
    private final ChainTables program = new ChainTables();
    private final Oracle oracle = new Oracle();

    public static void main(String[] args) {
        TextsTest test = new TextsTest();
        test.texts("017-/ x", 5);
        test.texts("12/ ", 7);
        test.tonesOfTwo();
        test.tonesOfThree();
        test.tablesOfTwo();
        test.rowsTooMany();
        test.everyByte();
        test.longest();
        Check.end();
    }

    /** All texts of these signs, up to a length. */
    private void texts(String signs, int longest) {
        int count = 1;
        for (int length = 1; length <= longest; length++) {
            count *= signs.length();
            for (int code = 0; code < count; code++) {
                char[] text = new char[length];
                int rest = code;
                for (int i = 0; i < length; i++) {
                    text[i] = signs.charAt(rest % signs.length());
                    rest /= signs.length();
                }
                compare(new String(text));
            }
        }
    }

    private void compare(String text) {
        compare(text, text.length());
    }

    private void compare(String text, int n) {
        feed(text);
        Check.due("tones \"" + text + "\" " + n, program.tones(n), oracle.tones(n));
        Check.due("letters behind \"" + text + "\"", Texts.ofTones(program), letters());
        Check.due("tape behind \"" + text + "\"", program.count(2), oracle.count(2));
        feed(text);
        Check.due("write \"" + text + "\" " + n, program.write(1, n), oracle.write(1, n));
        Check.due("read behind \"" + text + "\"", Texts.ofTable(program, 1), rows());
        Check.due("tape behind \"" + text + "\"", program.count(2), oracle.count(2));
    }

    private void feed(String text) {
        for (int[] five : Texts.fives(text)) {
            program.feed(five[0], five[1], five[2], five[3], five[4]);
            oracle.feed(five[0], five[1], five[2], five[3], five[4]);
        }
    }

    private String letters() {
        StringBuilder text = new StringBuilder();
        for (int k = 0; k < oracle.letter(-1); k++) {
            text.append((char) oracle.letter(k));
        }
        return text.toString();
    }

    private String rows() {
        StringBuilder text = new StringBuilder();
        for (int k = 0; k < oracle.read(1, -1); k++) {
            text.append((char) oracle.read(1, k));
        }
        return text.toString();
    }

    private void tonesOfTwo() {
        for (int a = -7; a <= 7; a++) {
            compare(a + "/");
            for (int b = -7; b <= 7; b++) {
                for (int m = -7; m <= 7; m++) {
                    compare(a + " " + b + "/" + m);
                }
            }
        }
    }

    private void tonesOfThree() {
        for (int code = 0; code < 6 * 6 * 6 * 6 * 6; code++) {
            int m = code / 216;
            compare(code % 6 + " " + code / 6 % 6 + " " + code / 36 % 6 + "/" + m % 6 + " " + m / 6);
        }
    }

    private void tablesOfTwo() {
        int[] around = {-8, -7, -6, -5, 0, 5, 6, 7, 8, 36, 37};
        for (int a : around) {
            for (int b : around) {
                for (int c = -2; c <= 38; c++) {
                    compare(a + " " + b + "/" + c);
                }
            }
        }
    }

    /** One number after the other, until there are too many of them. */
    private void rowsTooMany() {
        String first = "-6";
        for (int n = 1; n <= 6; n++) {
            String second = "";
            for (int i = 0; i <= n; i++) {
                compare(first + "/" + second);
                second += (i == 0 ? "" : " ") + (-5 + 2 * i);
            }
            second = "";
            for (int i = 0; i <= n; i++) {
                compare(first + "/" + second);
                second += (i == 0 ? "" : " ") + (1 + 7 * i);
            }
            first += " " + (-6 + 2 * n);
        }
    }

    /** Every byte at every place of the first sixty, blanks around it. */
    private void everyByte() {
        for (int sign = 0; sign < 256; sign++) {
            for (int place = 0; place < 60; place++) {
                String text = " ".repeat(place) + (char) sign + " ".repeat(59 - place);
                int due = sign == ' ' || sign >= '0' && sign <= '6' ? -1060 : sign >= '7' && sign <= '9' ? -2000 - place : -1000 - place;
                Texts.feed(program, text);
                Check.due("byte " + sign + " at " + place, program.tones(60), due);
                Texts.feed(program, text);
                Check.due("byte " + sign + " at " + place, program.write(1, 60), due);
            }
        }
    }

    /** What lies behind the bytes that are told does not count, a digit of a NUMBER least of all. */
    private void longest() {
        String[] texts = {"-3 1 4/-1 2", "1 2 3/36 12", "-6 -1 3 6/-3 0 5", "1 2 3 4 5/10 20 30 36", "-/-/-", "12-12/12"};
        for (String text : texts) {
            for (int blanks = 0; blanks <= 60; blanks++) {
                String moved = " ".repeat(blanks) + text;
                for (int n = 0; n <= 61; n++) {
                    compare(moved, n);
                    feed("/");
                    program.tones(1);
                    oracle.tones(1);
                }
            }
        }
    }
}
