/** What the project's tests share: counting wrong answers, and telling texts by feed and end. */
final class Check {
    private int wrong = 0;
    private int asked = 0;

    void due(int promise, String call, long got, long want) {
        asked++;
        if (got != want) {
            wrong++;
            System.out.println("promise " + promise + ": " + call + " answered " + got + ", due is " + want);
        }
    }

    void due(int promise, String call, boolean got, boolean want) {
        due(promise, call, got ? 1 : 0, want ? 1 : 0);
    }

    /** Puts a text on the tape, which must be empty. */
    static void tape(ThankedMoves x, byte[] text) {
        for (int i = 0; i < text.length; i += 20) {
            int[] words = new int[5];
            for (int j = 0; j < 20; j++) {
                int b = i + j < text.length ? text[i + j] & 255 : 0;
                words[j / 4] |= b << (24 - j % 4 * 8);
            }
            x.feed(words[0], words[1], words[2], words[3], words[4]);
        }
        x.end(text.length);
    }

    static byte[] bytes(String text) {
        return text.getBytes(java.nio.charset.StandardCharsets.ISO_8859_1);
    }

    /** Reads a text: its number or NONE. */
    static int text(ThankedMoves x, String text) {
        x.end(0);
        tape(x, bytes(text));
        return x.text();
    }

    /** A street under a law, with the kindness given. */
    static ThankedMoves street(String law, int... kinds) {
        ThankedMoves x = new ThankedMoves();
        if (law != null) {
            x.by(text(x, law));
        }
        for (int i = 0; i < kinds.length; i++) {
            x.kind(i, kinds[i]);
        }
        return x;
    }

    /** Brings a house to more than can be told, by good. */
    static void enrich(ThankedMoves x, int house, int kindness) {
        x.kind(house, Math.min(kindness, 40));
        for (int left = kindness - 40; left > 0; left -= 20) {
            x.good(house, Math.min(left, 20));
        }
    }

    /** The kindness of all houses as digits (those above 9 in brackets). */
    static String kinds(ThankedMoves x) {
        StringBuilder all = new StringBuilder();
        for (int i = 0; i < 8; i++) {
            int k = x.of(i, 0);
            all.append(k > 9 ? "[" + k + "]" : "" + k);
        }
        return all.toString();
    }

    void same(int promise, String call, String got, String want) {
        asked++;
        if (!got.equals(want)) {
            wrong++;
            System.out.println("promise " + promise + ": " + call + " answered " + got + ", due is " + want);
        }
    }

    void finish() {
        System.out.println(wrong == 0 ? "all " + asked + " answers are as due"
                : wrong + " of " + asked + " answers are not as due");
        if (wrong != 0) {
            System.exit(1);
        }
    }
}
