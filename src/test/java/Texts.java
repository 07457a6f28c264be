/** Texts onto the tape, and out of an object. */
final class Texts {
    private Texts() {
    }

    /** Feeds a text, filled up with a letter to whole calls; answers what the last call answered. */
    static int feed(ChainTables x, String text) {
        StringBuilder filled = new StringBuilder(text);
        while (filled.length() % 20 != 0 || filled.length() == 0) {
            filled.append('a');
        }
        int answer = 0;
        for (int at = 0; at < filled.length(); at += 20) {
            answer = x.feed(four(filled, at), four(filled, at + 4), four(filled, at + 8),
                    four(filled, at + 12), four(filled, at + 16));
        }
        return answer;
    }

    private static int four(StringBuilder text, int at) {
        int bits = 0;
        for (int i = 0; i < 4; i++) {
            bits = bits << 8 | text.charAt(at + i) & 255;
        }
        return bits;
    }

    static int tones(ChainTables x, String text) {
        feed(x, text);
        return x.tones(text.length());
    }

    static int write(ChainTables x, int d, String text) {
        feed(x, text);
        return x.write(d, text.length());
    }

    static ChainTables withTones(String text) {
        ChainTables x = new ChainTables();
        tones(x, text);
        return x;
    }

    static ChainTables withTable(int d, String text) {
        ChainTables x = new ChainTables();
        write(x, d, text);
        return x;
    }

    static String ofTones(ChainTables x) {
        StringBuilder text = new StringBuilder();
        for (int k = 0; k < x.letter(-1); k++) {
            text.append((char) x.letter(k));
        }
        return text.toString();
    }

    static String ofTable(ChainTables x, int d) {
        StringBuilder text = new StringBuilder();
        for (int k = 0; k < x.read(d, -1); k++) {
            text.append((char) x.read(d, k));
        }
        return text.toString();
    }
}
