import java.util.ArrayList;
import java.util.List;

/** Two objects with one past: one is asked a call, and must then answer as the one that was spared it. */
final class Twins {
    static final String WITNESS_0 = "61c60a60b59d";
    static final String WITNESS_5 = "*399p00a";
    static final String WITNESS_11 = "60a";
    static final String LAW = "g2(u<9);fw+3(1=1);a4(1=1);d1+n%2(1=1);x(c=3&w>6)";
    private static final String[] DRAWINGS = {"t", "2tpo", "9s", "3pb", "c2tp3o", "4t2(sb)c"};

    interface Call {
        long ask(CorkConfessions x);
    }

    private Twins() {
    }

    /** WITNESSES 0 (drawn), 5 (BROKEN), 11 (fresh), a LAW, something KEPT, and a tape of so many bytes. */
    static Cork grown(int bytes) {
        Cork c = new Cork();
        c.witness(0, WITNESS_0);
        c.witness(5, WITNESS_5);
        c.witness(11, WITNESS_11);
        c.law(LAW);
        c.draw(0, "2tpo");
        c.draw(5, "t");
        c.x.keep();
        c.draw(5, "s9p");
        c.draw(0, "sc3t");
        c.x.screw(41);
        if (bytes > 0) {
            c.feed(lawOf(Math.min(bytes, 240)));
        }
        if (bytes > 240) {
            c.feed("x".repeat(bytes - 240));
        }
        return c;
    }

    /** A text of THE LAW of just so many bytes, so that a look at the tape shows each of them. */
    static String lawOf(int bytes) {
        StringBuilder text = new StringBuilder(bytes % 2 == 0 ? "d12" : "d1");
        while (text.length() + 5 < bytes) {
            text.append("+k");
        }
        return text.append("(1=1)").toString();
    }

    /** The call is answered as due and changes nothing. */
    static void nothing(String name, int bytes, Call call, long due) {
        for (int future = 0; future < 2; future++) {
            Cork asked = grown(bytes);
            Cork spared = grown(bytes);
            Cork.due(name, call.ask(asked.x), due);
            alike(name, asked, spared, future);
        }
    }

    /** The call is answered as due and changes nothing, but the tape is empty then. */
    static void tapeAlone(String name, Call feed, Call call, long due) {
        Cork asked = grown(0);
        Cork spared = grown(0);
        feed.ask(asked.x);
        Cork.due(name, call.ask(asked.x), due);
        Cork.due(name + ": the tape then", asked.x.count(6), 0);
        alike(name, asked, spared, 1);
    }

    private static void alike(String name, Cork asked, Cork spared, int future) {
        List<Long> got = answers(asked, future);
        List<Long> due = answers(spared, future);
        Cork.due(name + " changes nothing: answers after it", got.size(), due.size());
        for (int i = 0; i < got.size() && i < due.size(); i++) {
            Cork.due(name + " changes nothing: answer " + i + " after it", got.get(i), due.get(i));
        }
    }

    private static List<Long> answers(Cork c, int future) {
        List<Long> row = new ArrayList<>();
        look(c.x, row);
        if (future == 0) {
            row.add((long) c.x.law(Math.min(240, c.x.count(6))));
            look(c.x, row);
            return row;
        }
        c.x.check(0);
        for (int k = 0; k < 12; k += 11) {
            for (String drawing : DRAWINGS) {
                for (int what = 0; what < 8; what += 2) {
                    row.add((long) c.tried(k, drawing, what));
                }
            }
        }
        row.add((long) c.draw(11, "2tpo"));
        row.add((long) c.x.count(7));
        row.add(c.x.undo() ? 1L : 0L);
        look(c.x, row);
        return row;
    }

    private static void look(CorkConfessions x, List<Long> row) {
        for (int what = 0; what < 9; what++) {
            row.add((long) x.count(what));
        }
        for (int k = 0; k < 12; k++) {
            int layers = x.witnessIs(k, 0);
            row.add((long) layers);
            for (int what = 1; what < 10 && layers > 0; what++) {
                row.add((long) x.witnessIs(k, what));
            }
            for (int i = 0; i < 3 * layers; i++) {
                row.add((long) x.layerIs(k, i / 3, i % 3));
            }
        }
    }
}
