/** Texts onto the tape, and out of an object. */
final class Texts {
    private Texts() {
    }

    /** Feeds a text, filled up to whole calls; answers what the last call answered. */
    static int feed(ChainTables x, String text) {
        int answer = 0;
        for (int[] five : fives(text)) {
            answer = x.feed(five[0], five[1], five[2], five[3], five[4]);
        }
        return answer;
    }

    /** The arguments of the calls that feed a text: twenty bytes each, the last ones filled up with a letter. */
    static int[][] fives(String text) {
        int[][] made = new int[Math.max(1, (text.length() + 19) / 20)][5];
        for (int at = 0; at < 20 * made.length; at++) {
            int sign = at < text.length() ? text.charAt(at) & 255 : 'a';
            made[at / 20][at % 20 / 4] |= sign << 24 - 8 * (at % 4);
        }
        return made;
    }

    static int tones(ChainTables x, String text) {
        feed(x, text);
        return x.tones(text.length());
    }

    static int write(ChainTables x, int d, String text) {
        feed(x, text);
        return x.write(d, text.length());
    }

    static ChainTables withTones(String text) {
        ChainTables x = new ChainTables();
        tones(x, text);
        return x;
    }

    static ChainTables withTable(int d, String text) {
        ChainTables x = new ChainTables();
        write(x, d, text);
        return x;
    }

    static String ofTones(ChainTables x) {
        StringBuilder text = new StringBuilder();
        for (int k = 0; k < x.letter(-1); k++) {
            text.append((char) x.letter(k));
        }
        return text.toString();
    }

    static String ofTable(ChainTables x, int d) {
        StringBuilder text = new StringBuilder();
        for (int k = 0; k < x.read(d, -1); k++) {
            text.append((char) x.read(d, k));
        }
        return text.toString();
    }
}
