import java.util.Random;

/** Promises 1 to 26: runs of calls by a fixed row of numbers, each answer held against the model's. */
public final class RandomRunsTest {
    private static final int RUNS = 500;
    private static final int CALLS = 256;
    private final Random random;
    private final Cork cork = new Cork();
    private final Model model = new Model();
    private final int run;

    private RandomRunsTest(int run) {
        this.run = run;
        random = new Random(run);
    }

    public static void main(String[] args) {
        int runs = args.length > 0 ? Integer.parseInt(args[0]) : RUNS;
        int from = args.length > 1 ? Integer.parseInt(args[1]) : 0;
        for (int run = from; run < from + runs && Cork.wrong == 0; run++) {
            new RandomRunsTest(run).go();
        }
        Cork.finish("RandomRunsTest");
    }

    private void go() {
        prepare();
        for (int call = 0; call < CALLS && Cork.wrong == 0; call++) {
            step();
        }
        compareAll();
    }

    private int upTo(int most) {
        return random.nextInt(most + 1);
    }

    /** Mostly inside the bounds, sometimes just outside. */
    private int near(int least, int most) {
        switch (upTo(19)) {
            case 0: return least - 1;
            case 1: return most + 1;
            case 2: return least;
            case 3: return most;
            default: return least + upTo(most - least);
        }
    }

    /** Mostly a told one. */
    private int someone() {
        int told = model.count(1);
        int k = near(0, 11);
        for (int again = 0; again < 8 && told != 0 && k >= 0 && (told >> k & 1) == 0; again++) {
            k = near(0, 11);
        }
        return k;
    }

    private void due(String call, long got, long want) {
        Cork.due("run " + run + ": " + call, got, want);
    }

    private void prepare() {
        for (int k = upTo(12); k > 0; k--) {
            tell(upTo(11), witnessText(upTo(14) == 0));
        }
        lay(lawText(false));
    }

    private void feed(String text) {
        int before = cork.x.count(6);
        if (before != 0 && before + text.length() <= 240 && upTo(3) > 0) {
            // What an earlier call has left on the tape goes first, through a check that empties it.
            due("check(0)", cork.x.check(0), model.check(0));
        }
        for (int from = 0; from < text.length(); from += 20) {
            int[] w = new int[5];
            for (int i = 0; i < 20; i++) {
                int sign = from + i < text.length() ? text.charAt(from + i) : upTo(255);
                w[i / 4] |= sign << 24 - i % 4 * 8;
            }
            due("feed", cork.x.feed(w[0], w[1], w[2], w[3], w[4]), model.feed(w));
        }
    }

    private void tell(int k, String text) {
        feed(text);
        int n = text.length() + (upTo(30) == 0 ? 1 : 0);
        due("witness " + k + " " + text, cork.x.witness(k, n), model.witness(k, n));
    }

    private void lay(String text) {
        feed(text);
        int n = text.length() + (upTo(30) == 0 ? 1 : 0);
        due("law " + text, cork.x.law(n), model.law(n));
    }

    private void drawOn(int k, String text, boolean tried) {
        feed(text);
        int n = text.length() + (upTo(30) == 0 ? 1 : 0);
        if (tried) {
            int what = near(0, 7);
            due("tried " + k + " " + text + " " + what, cork.x.tried(k, n, what), model.tried(k, n, what));
        } else {
            due("draw " + k + " " + text, cork.x.draw(k, n), model.draw(k, n));
        }
    }

    private String bytes(int many, int most, int over) {
        StringBuilder b = new StringBuilder();
        for (int i = 0; i < many; i++) {
            b.append((char) (upTo(60) == 0 ? over : upTo(most)));
        }
        return b.toString();
    }

    private void step() {
        int kind = upTo(99);
        int k = someone();
        if (kind < 8) {
            tell(near(0, 11), witnessText(upTo(3) == 0));
        } else if (kind < 13) {
            lay(lawText(upTo(3) == 0));
        } else if (kind < 30) {
            drawOn(k, drawingText(upTo(5) == 0), false);
        } else if (kind < 47) {
            drawOn(k, drawingText(upTo(5) == 0), true);
        } else if (kind < 60) {
            ask(upTo(9), k);
        } else if (kind < 80) {
            puzzle(upTo(4));
        } else {
            change(upTo(6), k);
        }
    }

    private void ask(int kind, int k) {
        int l = someone();
        int what = near(0, 1);
        switch (kind) {
            case 0:
                int year = upTo(9) == 0 ? near(0, 99) : year();
                due("plan " + k + " " + year + " " + what, cork.x.plan(k, year, what), model.plan(k, year, what));
                break;
            case 1:
                int sins = upTo(9) == 0 ? near(0, 65535) : random.nextInt(65536) & random.nextInt(65536) & 255;
                due("heard " + sins + " " + what, cork.x.heard(sins, what), model.heard(sins, what));
                break;
            case 2:
                due("agree " + k + " " + l, cork.x.agree(k, l), model.agree(k, l));
                break;
            case 3:
                due("atOdds " + k + " " + l, cork.x.atOdds(k, l), model.atOdds(k, l));
                break;
            case 4:
                due("years " + l + " " + what, cork.x.years(l, what), model.years(l, what));
                break;
            case 5:
                due("peak " + what, cork.x.peak(what), model.peak(what));
                break;
            case 6:
                int sin = near(0, 15);
                due("who " + sin, cork.x.who(sin), model.who(sin));
                break;
            case 7:
                int of = near(0, 9);
                due("witnessIs " + k + " " + of, cork.x.witnessIs(k, of), model.witnessIs(k, of));
                break;
            case 8:
                int i = near(0, 23);
                int which = near(0, 2);
                due("layerIs " + k + " " + i, cork.x.layerIs(k, i, which), model.layerIs(k, i, which));
                break;
            default:
                int counted = near(0, 8);
                due("count " + counted, cork.x.count(counted), model.count(counted));
        }
    }

    private void puzzle(int kind) {
        int what = near(0, 1);
        if (kind == 0) {
            int n = near(1, 12);
            int k = near(0, 12);
            feed(bytes(Math.max(0, n), 10, 11));
            due("jury " + n + " " + k, cork.x.jury(n, k), model.jury(n, k));
        } else if (kind == 1) {
            int n = near(2, 6);
            int m = near(1, 9);
            int place = upTo(2) == 0 ? 100 : near(0, Math.max(0, n - 1));
            feed(tasterRows(n, m));
            due("tasters " + n + " " + m + " " + place, cork.x.tasters(n, m, place), model.tasters(n, m, place));
        } else if (kind == 2) {
            int much = near(0, 20);
            StringBuilder b = new StringBuilder();
            for (int j = 0; j < 3; j++) {
                int big = upTo(40) == 0 ? 21 : upTo(20);
                b.append((char) big).append((char) (upTo(40) == 0 ? big + 1 : upTo(big)));
            }
            feed(b.toString());
            due("jugs " + much + " " + what, cork.x.jugs(much, what), model.jugs(much, what));
        } else if (kind == 3) {
            int n = upTo(2) == 0 ? near(1, 8) : near(1, 5);
            int from = near(0, 99);
            int place = upTo(2) == 0 ? 100 : near(0, Math.max(0, n - 1));
            StringBuilder b = new StringBuilder();
            for (int j = 0; j < n; j++) {
                int best = upTo(1) == 0 ? Math.max(0, Math.min(99, from + upTo(10) - 3)) : upTo(99);
                b.append((char) (upTo(60) == 0 ? 100 : best));
                b.append((char) (upTo(60) == 0 ? 51 : upTo(1) == 0 ? upTo(3) : upTo(50)));
            }
            feed(b.toString());
            due("cellar " + n + " " + from + " " + place, cork.x.cellar(n, from, place), model.cellar(n, from, place));
        } else {
            int n = near(1, 10);
            int good = upTo(1) == 0 ? near(0, 99) : near(0, 30);
            feed(bytes(Math.max(0, n), 9, 10));
            due("wear " + n + " " + good + " " + what, cork.x.wear(n, good, what), model.wear(n, good, what));
        }
    }

    private String tasterRows(int n, int m) {
        StringBuilder b = new StringBuilder();
        for (int t = 0; t < m; t++) {
            int[] row = new int[Math.max(0, n)];
            for (int i = 0; i < n; i++) {
                int j = upTo(i);
                row[i] = row[j];
                row[j] = i;
            }
            for (int wine : row) {
                b.append((char) (upTo(150) == 0 ? upTo(7) : wine));
            }
        }
        return b.toString();
    }

    private void change(int kind, int k) {
        switch (kind) {
            case 0:
                int turns = near(0, 99);
                due("screw " + turns, cork.x.screw(turns) ? 1 : 0, model.screw(turns) ? 1 : 0);
                break;
            case 1:
                int x = near(0, 65535);
                due("seed " + x, cork.x.seed(x) ? 1 : 0, model.seed(x) ? 1 : 0);
                break;
            case 2:
                due("keep", cork.x.keep(), model.keep());
                break;
            case 3:
                due("undo", cork.x.undo() ? 1 : 0, model.undo() ? 1 : 0);
                break;
            case 4:
                StringBuilder b = new StringBuilder();
                for (int i = 0; i < 12; i++) {
                    int out = model.people[i].told ? model.people[i].out : 255;
                    b.append((char) (upTo(20) == 0 ? 3 : out));
                }
                feed(b.toString());
                int n = near(0, 12);
                due("check " + n, cork.x.check(n), model.check(n));
                break;
            case 5:
                feed(bytes(upTo(100), 255, 0));
                break;
            default:
                compareAll();
        }
    }

    private void compareAll() {
        for (int what = 0; what <= 8; what++) {
            due("count " + what, cork.x.count(what), model.count(what));
        }
        for (int k = 0; k < 12; k++) {
            for (int what = 0; what <= 9; what++) {
                due("witnessIs " + k + " " + what, cork.x.witnessIs(k, what), model.witnessIs(k, what));
            }
            for (int i = 0; i < 25; i++) {
                for (int what = 0; what < 3; what++) {
                    due("layerIs " + k + " " + i, cork.x.layerIs(k, i, what), model.layerIs(k, i, what));
                }
            }
        }
    }

    // ---- texts

    private int year() {
        return 58 + upTo(7);
    }

    private String spoilt(String text, String signs, int most) {
        StringBuilder b = new StringBuilder(text);
        for (int times = upTo(2); times >= 0; times--) {
            int at = upTo(b.length() - 1);
            char sign = signs.charAt(upTo(signs.length() - 1));
            switch (upTo(3)) {
                case 0: b.setCharAt(at, sign); break;
                case 1: b.insert(at, sign); break;
                case 2: b.setLength(Math.max(1, at)); break;
                default:
                    if (b.length() > 1) {
                        b.deleteCharAt(at);
                    }
            }
        }
        return b.length() > most ? b.substring(0, most) : b.toString();
    }

    private String cut(String text, int most) {
        return text.length() > most ? text.substring(0, most) : text;
    }

    private String witnessText(boolean spoil) {
        StringBuilder b = new StringBuilder();
        for (int many = upTo(4); many >= 0; many--) {
            layers(b, 0);
        }
        String text = cut(b.toString(), 80);
        return spoil ? spoilt(text, "0123456789abcdefghijklmnopq*()* ", 80) : text;
    }

    private void layers(StringBuilder b, int open) {
        if (upTo(4) == 0) {
            b.append('*').append(2 + upTo(upTo(7)));
        }
        if (open < (upTo(40) == 0 ? 3 : 2) && upTo(3) == 0) {
            b.append('(');
            for (int many = upTo(2); many >= 0; many--) {
                layers(b, open + 1);
            }
            b.append(')');
        } else {
            b.append(year()).append((char) ('a' + upTo(upTo(15))));
        }
    }

    private String drawingText(boolean spoil) {
        StringBuilder b = new StringBuilder();
        for (int many = upTo(6); many >= 0; many--) {
            deeds(b, 0);
        }
        String text = cut(b.toString(), 60);
        return spoil ? spoilt(text, "123456789tpsboc()tpsboc ", 60) : text;
    }

    private void deeds(StringBuilder b, int open) {
        if (upTo(2) == 0) {
            b.append(2 + upTo(upTo(7)));
        }
        if (open < (upTo(40) == 0 ? 3 : 2) && upTo(3) == 0) {
            b.append('(');
            for (int many = upTo(2); many >= 0; many--) {
                deeds(b, open + 1);
            }
            b.append(')');
        } else {
            b.append("tpsboctpso".charAt(upTo(9)));
        }
    }

    private String lawText(boolean spoil) {
        StringBuilder b = new StringBuilder();
        int want = upTo(20) == 0 ? 18 : 1 + upTo(8);
        if (upTo(2) == 0) {
            b.append("d").append(1 + upTo(4)).append("(1=1);g").append(upTo(7)).append("(1=1);f").append(upTo(8))
                .append("(1=1)");
        }
        for (int r = 0; r < want; r++) {
            StringBuilder rule = new StringBuilder();
            char letter = "gfaddx".charAt(upTo(5));
            rule.append(letter);
            if (letter != 'x') {
                sum(rule, 0, upTo(9) == 0 ? 9 : 3);
            }
            rule.append('(');
            if (want == 18 || upTo(3) == 0) {
                rule.append("1=1");
            } else {
                choice(rule, 1, upTo(9) == 0 ? 9 : 4);
            }
            rule.append(')');
            if (b.length() + rule.length() + 1 > 240) {
                break;
            }
            b.append(b.length() > 0 ? ";" : "").append(rule);
        }
        if (b.length() == 0) {
            b.append("d2(1=1);g1(1=1)");
        }
        return spoil ? spoilt(b.toString(), "gfadxknzcuysiw0123456789+-*/%<>=!&|()[];", 240) : b.toString();
    }

    private void choice(StringBuilder b, int open, int most) {
        test(b, open, most);
        for (int many = upTo(upTo(2)); many > 0; many--) {
            b.append("|&".charAt(upTo(1)));
            test(b, open, most);
        }
    }

    private void test(StringBuilder b, int open, int most) {
        int kind = open < most ? upTo(most == 9 ? 2 : 5) : 5;
        if (kind == 0) {
            b.append('!');
            test(b, open + 1, most);
        } else if (kind == 1) {
            b.append('(');
            choice(b, open + 1, most);
            b.append(')');
        } else {
            sum(b, open, most);
            b.append("<>=".charAt(upTo(2)));
            sum(b, open, most);
        }
    }

    private void sum(StringBuilder b, int open, int most) {
        factor(b, open, most);
        for (int many = upTo(upTo(3)); many > 0; many--) {
            b.append("+-*/%".charAt(upTo(4)));
            factor(b, open, most);
        }
    }

    private void factor(StringBuilder b, int open, int most) {
        int kind = upTo(9);
        if (kind < (most == 9 ? 4 : 1) && open < most) {
            b.append('[');
            sum(b, open + 1, most);
            b.append(']');
        } else if (kind < 5) {
            b.append("knzcuysiw".charAt(upTo(8)));
        } else {
            b.append(upTo(20) == 0 ? 10000 + upTo(89999) : upTo(upTo(10)));
            if (upTo(60) == 0) {
                b.append(upTo(9));
            }
        }
    }
}
