import java.nio.charset.StandardCharsets;

/** What the tests share: a CorkConfessions that takes texts, and a tally of answers that are not as due. */
final class Cork {
    static int wrong = 0;
    static int asked = 0;
    CorkConfessions x = new CorkConfessions();

    static void due(String call, long got, long want) {
        asked++;
        if (got != want) {
            wrong++;
            System.out.println(call + " answered " + got + ", due is " + want);
        }
    }

    static void due(String call, boolean got, boolean want) {
        due(call, got ? 1 : 0, want ? 1 : 0);
    }

    static void finish(String name) {
        System.out.println(name + ": " + asked + " asked, " + wrong + " not as due");
        if (wrong != 0 || asked == 0) {
            System.exit(1);
        }
    }

    /** Feeds bytes, filled up with zeros to a multiple of twenty. */
    int feed(int... bytes) {
        int size = 0;
        for (int from = 0; from < bytes.length; from += 20) {
            int[] word = new int[5];
            for (int i = 0; i < 20; i++) {
                int value = from + i < bytes.length ? bytes[from + i] : 0;
                word[i / 4] |= (value & 255) << 24 - i % 4 * 8;
            }
            size = x.feed(word[0], word[1], word[2], word[3], word[4]);
        }
        return size;
    }

    int feed(String text) {
        byte[] signs = text.getBytes(StandardCharsets.ISO_8859_1);
        int[] bytes = new int[signs.length];
        for (int i = 0; i < signs.length; i++) {
            bytes[i] = signs[i] & 255;
        }
        return feed(bytes);
    }

    int law(String text) {
        feed(text);
        return x.law(text.length());
    }

    int witness(int k, String text) {
        feed(text);
        return x.witness(k, text.length());
    }

    int draw(int k, String text) {
        feed(text);
        return x.draw(k, text.length());
    }

    int tried(int k, String text, int what) {
        feed(text);
        return x.tried(k, text.length(), what);
    }

    long jury(int k, int... tenths) {
        feed(tenths);
        return x.jury(tenths.length, k);
    }

    int tasters(int n, int what, int... rows) {
        feed(rows);
        return x.tasters(n, rows.length / n, what);
    }

    int jugs(int much, int what, int... jugs) {
        feed(jugs);
        return x.jugs(much, what);
    }

    int cellar(int from, int what, int... bottles) {
        feed(bottles);
        return x.cellar(bottles.length / 2, from, what);
    }

    int wear(int good, int what, int... corks) {
        feed(corks);
        return x.wear(corks.length, good, what);
    }

    int check(int... outs) {
        feed(outs);
        return x.check(outs.length);
    }
}
