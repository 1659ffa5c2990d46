import java.util.ArrayList;
import java.util.Arrays;
import java.util.HashSet;
import java.util.LinkedHashMap;
import java.util.List;
import java.util.Map;
import java.util.Set;

/** The document told a second time, as plainly as can be and without a thought for speed, to hold the class against. */
final class Model {
    static final class Fault extends RuntimeException {
        private static final long serialVersionUID = 1L;
        final int answer;

        Fault(int number, int place) {
            super(null, null, false, false);
            answer = -1000 * number - place;
        }
    }

    static final class Refused extends RuntimeException {
        private static final long serialVersionUID = 1L;

        Refused() {
            super(null, null, false, false);
        }
    }

    static final class Person {
        List<int[]> layers = new ArrayList<>();
        boolean told;
        int out, fizz, turns, cork = 9;
        boolean open, broken;

        Person copy() {
            Person p = new Person();
            p.layers = layers;
            p.told = told;
            p.out = out;
            p.fizz = fizz;
            p.turns = turns;
            p.cork = cork;
            p.open = open;
            p.broken = broken;
            return p;
        }

        List<int[]> left() {
            return layers.subList(out, layers.size());
        }

        String key() {
            return out + " " + fizz + " " + turns + " " + cork + " " + open + " " + broken;
        }
    }

    Person[] people = new Person[12];
    Person[] keptPeople;
    int keptScrew, keptConfessed, keptX;
    int screw = 99, confessed = 0, x = 1;
    List<Integer> tape = new ArrayList<>();
    String law = "";
    int rules = 0;

    Model() {
        for (int k = 0; k < 12; k++) {
            people[k] = new Person();
        }
    }

    boolean screw(int t) {
        if (t < 0 || t > 99) {
            return false;
        }
        screw = t;
        return true;
    }

    int feed(int... words) {
        if (tape.size() + 20 > 260) {
            return -1;
        }
        for (int w : words) {
            for (int b = 3; b >= 0; b--) {
                tape.add(w >> 8 * b & 255);
            }
        }
        return tape.size();
    }

    private boolean lacks(int n, int least, int most) {
        return n < least || n > most || n > tape.size();
    }

    private String text(int n) {
        StringBuilder b = new StringBuilder();
        for (int i = 0; i < n; i++) {
            b.append((char) (int) tape.get(i));
        }
        tape.clear();
        return b.toString();
    }

    private int[] bytes(int n) {
        int[] b = new int[n];
        for (int i = 0; i < n; i++) {
            b[i] = tape.get(i);
        }
        tape.clear();
        return b;
    }

    // ---- THE LAW: read and reckoned straight from its text

    /** Walks over a text; when not asked it only reads. */
    private static final class Walker {
        final String t;
        int at;
        int[] known = new int[9];

        Walker(String t, int at) {
            this.t = t;
            this.at = at;
        }

        char now() {
            return at < t.length() ? t.charAt(at) : '\uffff';
        }

        void must(char c) {
            if (now() != c) {
                throw new Fault(1, at);
            }
            at++;
        }

        void opens(int open) {
            if (open >= 6) {
                throw new Fault(5, at);
            }
        }

        boolean c(int open, boolean asked) {
            boolean holds = part(open, asked);
            while (now() == '|') {
                at++;
                boolean right = part(open, asked && !holds);
                holds = holds || right;
            }
            return holds;
        }

        boolean part(int open, boolean asked) {
            boolean holds = test(open, asked);
            while (now() == '&') {
                at++;
                boolean right = test(open, asked && holds);
                holds = holds && right;
            }
            return holds;
        }

        boolean test(int open, boolean asked) {
            if (now() == '!') {
                opens(open);
                at++;
                return !test(open + 1, asked);
            }
            if (now() == '(') {
                opens(open);
                at++;
                boolean holds = c(open + 1, asked);
                must(')');
                return holds;
            }
            int left = e(open, asked);
            char op = now();
            if ("<>=".indexOf(op) < 0) {
                throw new Fault(1, at);
            }
            at++;
            int right = e(open, asked);
            return op == '<' ? left < right : op == '>' ? left > right : left == right;
        }

        int e(int open, boolean asked) {
            int sum = term(open, asked);
            while (now() == '+' || now() == '-') {
                char op = t.charAt(at++);
                int right = term(open, asked);
                sum = op == '+' ? sum + right : sum - right;
            }
            return sum;
        }

        int term(int open, boolean asked) {
            int product = factor(open, asked);
            while (now() == '*' || now() == '/' || now() == '%') {
                char op = t.charAt(at++);
                int right = factor(open, asked);
                if (op == '*') {
                    product *= right;
                } else if (right == 0) {
                    if (asked) {
                        throw new Refused();
                    }
                    product = 0;
                } else {
                    product = op == '/' ? product / right : product % right;
                }
            }
            return product;
        }

        int factor(int open, boolean asked) {
            char c = now();
            if (c == '[') {
                opens(open);
                at++;
                int v = e(open + 1, asked);
                must(']');
                return v;
            }
            if (c >= '0' && c <= '9') {
                int from = at;
                while (now() >= '0' && now() <= '9') {
                    if (at - from == 5) {
                        throw new Fault(2, at);
                    }
                    at++;
                }
                return Integer.parseInt(t.substring(from, at));
            }
            int which = "knzcuysiw".indexOf(c);
            if (which < 0) {
                throw new Fault(1, at);
            }
            at++;
            return known[which];
        }
    }

    private static int readLaw(String t) {
        Walker w = new Walker(t, 0);
        int many = 0;
        while (true) {
            if ("gfadx".indexOf(w.now()) < 0) {
                throw new Fault(1, w.at);
            }
            if (many == 16) {
                throw new Fault(4, w.at);
            }
            boolean x = w.now() == 'x';
            w.at++;
            if (!x) {
                w.e(0, false);
            }
            w.must('(');
            w.c(1, false);
            w.must(')');
            many++;
            if (w.at == t.length()) {
                return many;
            }
            w.must(';');
        }
    }

    /** Of x: 1 if one holds. */
    private int ask(char kind, int most, int k, Person p, int i, int draw) {
        if (rules == 0) {
            return 0;
        }
        int[] top = p.out < p.layers.size() ? p.layers.get(p.out) : new int[2];
        int[] known = {k, p.layers.size() - p.out, p.fizz, p.cork, p.turns, top[0], top[1], i, draw};
        for (String rule : law.split(";")) {
            if (rule.charAt(0) != kind) {
                continue;
            }
            Walker w = new Walker(rule, 1);
            w.known = known;
            if (kind != 'x') {
                w.e(0, false);
            }
            w.must('(');
            boolean holds;
            try {
                holds = w.c(1, true);
            } catch (Refused r) {
                holds = false;
            }
            if (holds && kind == 'x') {
                return 1;
            }
            if (holds) {
                w.at = 1;
                try {
                    return Math.max(0, Math.min(most, w.e(0, true)));
                } catch (Refused r) {
                    return 0;
                }
            }
        }
        return 0;
    }

    int law(int n) {
        if (lacks(n, 1, 240)) {
            return -1;
        }
        String t = text(n);
        try {
            rules = readLaw(t);
        } catch (Fault f) {
            return f.answer;
        }
        law = t;
        return rules;
    }

    // ---- the languages with rounds

    private static final class Rounds {
        final String t;
        final boolean layers;
        final List<Integer> out = new ArrayList<>();
        int at = 0;

        Rounds(String t, boolean layers) {
            this.t = t;
            this.layers = layers;
        }

        char now() {
            return at < t.length() ? t.charAt(at) : '\uffff';
        }

        char pass(String of) {
            if (of.indexOf(now()) < 0) {
                throw new Fault(1, at);
            }
            return t.charAt(at++);
        }

        List<Integer> all() {
            items(0);
            if (at < t.length()) {
                throw new Fault(1, at);
            }
            return out;
        }

        void items(int open) {
            do {
                item(open);
            } while (at < t.length() && now() != ')');
        }

        void item(int open) {
            int start = at;
            int times = 1;
            if (layers && now() == '*') {
                at++;
                times = pass("23456789") - '0';
            } else if (!layers && now() >= '2' && now() <= '9') {
                times = t.charAt(at++) - '0';
            }
            int before = out.size();
            if (now() == '(') {
                if (open == 2) {
                    throw new Fault(5, at);
                }
                at++;
                items(open + 1);
                pass(")");
            } else if (layers) {
                int year = (pass("0123456789") - '0') * 10;
                year += pass("0123456789") - '0';
                out.add(year * 16 + pass("abcdefghijklmnop") - 'a');
            } else {
                out.add("tpsboc".indexOf(pass("tpsboc")));
            }
            List<Integer> once = new ArrayList<>(out.subList(before, out.size()));
            for (int i = 1; i < times; i++) {
                out.addAll(once);
            }
            if (out.size() > (layers ? 24 : 96)) {
                throw new Fault(6, start);
            }
        }
    }

    int witness(int k, int n) {
        if (k < 0 || k > 11 || lacks(n, 1, 80)) {
            return -1;
        }
        try {
            Person p = new Person();
            p.told = true;
            for (int item : new Rounds(text(n), true).all()) {
                p.layers.add(new int[] {item / 16, item % 16});
            }
            people[k] = p;
            return p.layers.size();
        } catch (Fault f) {
            return f.answer;
        }
    }

    private boolean told(int k) {
        return k >= 0 && k < 12 && people[k].told;
    }

    /** One DEED; the SCREW after it. */
    private int deed(int k, Person p, int deed, int i, int draw, int screw) {
        switch (deed) {
            case 0:
                if (!p.open && screw > 0) {
                    p.turns = Math.min(9, p.turns + 1);
                    screw--;
                    if (p.turns > 5) {
                        p.cork--;
                    }
                }
                break;
            case 1:
                if (!p.open) {
                    if (p.turns >= ask('g', 9, k, p, i, draw) && ask('x', 1, k, p, i, draw) == 0) {
                        p.open = true;
                        p.turns = 0;
                    } else {
                        p.cork -= 2;
                    }
                }
                break;
            case 2:
                p.fizz = Math.min(19, p.fizz + ask('f', 19, k, p, i, draw));
                if (!p.open && p.fizz == 19) {
                    p.open = true;
                    p.turns = 0;
                    p.out = Math.min(p.layers.size(), p.out + 1);
                }
                break;
            case 3:
                p.fizz = Math.max(0, p.fizz - ask('a', 19, k, p, i, draw));
                break;
            case 4:
                if (p.open) {
                    int d = Math.min(p.left().size(), ask('d', 9, k, p, i, draw));
                    p.out += d;
                    p.fizz = Math.max(0, p.fizz - d);
                }
                break;
            default:
                p.open = false;
                p.cork = 9;
                p.turns = 0;
        }
        if (p.cork <= 0) {
            p.cork = 0;
            p.broken = true;
        }
        return screw;
    }

    int draw(int k, int n) {
        if (!told(k) || lacks(n, 1, 60)) {
            return -1;
        }
        List<Integer> deeds;
        try {
            deeds = new Rounds(text(n), false).all();
        } catch (Fault f) {
            return f.answer;
        }
        Person p = people[k];
        int before = p.out;
        for (int i = 0; i < deeds.size() && !p.broken; i++) {
            x = (25173 * x + 13849) % 65536;
            screw = deed(k, p, deeds.get(i), i, x % 10, screw);
        }
        confessed = Math.min(9999, confessed + p.out - before);
        return p.out - before;
    }

    int tried(int k, int n, int what) {
        if (what < 0 || what > 7 || !told(k) || lacks(n, 1, 60)) {
            return -1;
        }
        List<Integer> deeds;
        try {
            deeds = new Rounds(text(n), false).all();
        } catch (Fault f) {
            return f.answer;
        }
        Person p = people[k].copy();
        int s = screw;
        int y = x;
        int brokenAt = p.broken ? -3 : -2;
        for (int i = 0; i < deeds.size() && !p.broken; i++) {
            y = (25173 * y + 13849) % 65536;
            s = deed(k, p, deeds.get(i), i, y % 10, s);
            brokenAt = p.broken ? i : -2;
        }
        int came = p.out - people[k].out;
        int last = came == 0 ? -2 : p.layers.get(p.out - 1)[0];
        return new int[] {came, brokenAt, p.fizz, p.cork, p.turns, p.open ? 1 : 0, last, s}[what];
    }

    int witnessIs(int k, int what) {
        if (!told(k) || what < 0 || what > 9) {
            return -1;
        }
        Person p = people[k];
        int oldest = p.left().stream().mapToInt(l -> l[0]).min().orElse(-2);
        int youngest = p.left().stream().mapToInt(l -> l[0]).max().orElse(-2);
        return new int[] {p.layers.size(), p.out, p.fizz, p.cork, p.turns, p.open ? 1 : 0, p.broken ? 1 : 0,
            oldest, youngest, sins(p)}[what];
    }

    private static int sins(Person p) {
        int bits = 0;
        for (int[] l : p.left()) {
            bits |= 1 << l[1];
        }
        return bits;
    }

    int layerIs(int k, int i, int what) {
        if (!told(k) || i < 0 || i >= people[k].layers.size() || what < 0 || what > 2) {
            return -1;
        }
        return what == 2 ? i < people[k].out ? 1 : 0 : people[k].layers.get(i)[what];
    }

    /** Goes by whole rows of DEEDS: each state keeps the first row, by length and then by letters, that leads to it. */
    int plan(int k, int year, int what) {
        if (!told(k) || year < 0 || year > 99 || what < 0 || what > 1) {
            return -1;
        }
        Person p = people[k];
        int target = -1;
        for (int i = p.layers.size() - 1; i >= p.out; i--) {
            if (p.layers.get(i)[0] == year) {
                target = i;
            }
        }
        if (target < 0 || p.broken) {
            return -2;
        }
        Set<String> seen = new HashSet<>();
        Map<String, Person> level = new LinkedHashMap<>();
        level.put("", p);
        seen.add(p.key());
        for (int depth = 1; depth <= 20; depth++) {
            Map<String, Person> next = new LinkedHashMap<>();
            for (Map.Entry<String, Person> entry : level.entrySet()) {
                for (int d = 0; d < 6; d++) {
                    Person q = entry.getValue().copy();
                    deed(k, q, d, 0, 0, 1);
                    if (q.out > target) {
                        return what == 0 ? depth : (entry.getKey() + d).charAt(0) - '0';
                    }
                    if (!q.broken && seen.add(q.key())) {
                        next.put(entry.getKey() + d, q);
                    }
                }
            }
            level = next;
        }
        return -3;
    }

    int heard(int sins, int what) {
        if (sins < 0 || sins > 65535 || what < 0 || what > 1) {
            return -1;
        }
        for (int size = 0; size <= 12; size++) {
            for (int bits = 0; bits < 4096; bits++) {
                if (Integer.bitCount(bits) == size) {
                    int have = 0;
                    for (int k = 0; k < 12; k++) {
                        have |= (bits >> k & 1) == 1 ? sins(people[k]) : 0;
                    }
                    if ((have & sins) == sins) {
                        return what == 0 ? size : bits;
                    }
                }
            }
        }
        return -2;
    }

    int agree(int k, int l) {
        if (!told(k) || !told(l)) {
            return -1;
        }
        List<int[]> a = people[k].layers;
        List<int[]> b = people[l].layers;
        int[][] best = new int[a.size() + 1][b.size() + 1];
        for (int i = a.size() - 1; i >= 0; i--) {
            for (int j = b.size() - 1; j >= 0; j--) {
                best[i][j] = Math.max(best[i + 1][j], best[i][j + 1]);
                if (Arrays.equals(a.get(i), b.get(j))) {
                    best[i][j] = Math.max(best[i][j], 1 + best[i + 1][j + 1]);
                }
            }
        }
        return best[0][0];
    }

    int atOdds(int k, int l) {
        if (!told(k) || !told(l)) {
            return -1;
        }
        Set<Integer> both = new HashSet<>();
        Set<Integer> alike = new HashSet<>();
        for (int[] a : people[k].layers) {
            for (int[] b : people[l].layers) {
                if (a[0] == b[0]) {
                    both.add(a[0]);
                    if (a[1] == b[1]) {
                        alike.add(a[0]);
                    }
                }
            }
        }
        both.removeAll(alike);
        return both.size();
    }

    int years(int m, int what) {
        if (m < 1 || m > 12 || what < 0 || what > 1) {
            return -1;
        }
        int many = 0;
        int first = -2;
        for (int year = 0; year < 100; year++) {
            int with = 0;
            for (Person p : people) {
                int y = year;
                with += p.left().stream().anyMatch(l -> l[0] == y) ? 1 : 0;
            }
            if (with >= m) {
                first = many == 0 ? year : first;
                many++;
            }
        }
        return what == 0 ? many : first;
    }

    int peak(int what) {
        if (what < 0 || what > 1) {
            return -1;
        }
        int best = -2;
        long most = 0;
        for (int year = 0; year < 100; year++) {
            int y = year;
            long many = Arrays.stream(people).flatMap(p -> p.left().stream()).filter(l -> l[0] == y).count();
            if (many > most) {
                most = many;
                best = year;
            }
        }
        return what == 0 ? best : (int) most;
    }

    int who(int sin) {
        if (sin < 0 || sin > 15) {
            return -1;
        }
        int bits = 0;
        for (int k = 0; k < 12; k++) {
            bits |= (sins(people[k]) >> sin & 1) << k;
        }
        return bits;
    }

    long jury(int n, int k) {
        if (k < 0 || k > 12 || lacks(n, 1, 12)) {
            return -1;
        }
        int[] b = bytes(n);
        for (int t : b) {
            if (t > 10) {
                return -2;
            }
        }
        long sum = 0;
        for (int bits = 0; bits < 1 << n; bits++) {
            if (Integer.bitCount(bits) >= k) {
                long ways = 1;
                for (int j = 0; j < n; j++) {
                    ways *= (bits >> j & 1) == 1 ? b[j] : 10 - b[j];
                }
                sum += ways;
            }
        }
        return sum;
    }

    private static void rows(int n, List<Integer> begun, List<List<Integer>> all) {
        if (begun.size() == n) {
            all.add(new ArrayList<>(begun));
            return;
        }
        for (int i = 0; i < n; i++) {
            if (!begun.contains(i)) {
                begun.add(i);
                rows(n, begun, all);
                begun.remove(begun.size() - 1);
            }
        }
    }

    int tasters(int n, int m, int what) {
        if (n < 2 || n > 6 || m < 1 || m > 9 || what != 100 && (what < 0 || what >= n) || lacks(n * m, 1, 260)) {
            return -1;
        }
        int[] b = bytes(n * m);
        List<List<Integer>> told = new ArrayList<>();
        for (int t = 0; t < m; t++) {
            List<Integer> row = new ArrayList<>();
            for (int i = 0; i < n; i++) {
                row.add(b[t * n + i]);
            }
            for (int i = 0; i < n; i++) {
                if (!row.contains(i)) {
                    return -3;
                }
            }
            told.add(row);
        }
        List<List<Integer>> all = new ArrayList<>();
        rows(n, new ArrayList<>(), all);
        int least = Integer.MAX_VALUE;
        List<Integer> best = null;
        for (List<Integer> row : all) {
            int cases = 0;
            for (List<Integer> other : told) {
                for (int i = 0; i < n; i++) {
                    for (int j = i + 1; j < n; j++) {
                        cases += other.indexOf(row.get(i)) > other.indexOf(row.get(j)) ? 1 : 0;
                    }
                }
            }
            if (cases < least) {
                least = cases;
                best = row;
            }
        }
        return what == 100 ? least : best.get(what);
    }

    int jugs(int much, int what) {
        if (much < 0 || much > 20 || what < 0 || what > 1 || lacks(6, 6, 6)) {
            return -1;
        }
        int[] b = bytes(6);
        for (int j = 0; j < 3; j++) {
            if (b[2 * j] > 20 || b[2 * j + 1] > b[2 * j]) {
                return -3;
            }
        }
        Set<List<Integer>> seen = new HashSet<>();
        Set<List<Integer>> level = new HashSet<>();
        level.add(List.of(b[1], b[3], b[5]));
        int found = -2;
        for (int pours = 0; !level.isEmpty(); pours++) {
            seen.addAll(level);
            Set<List<Integer>> next = new HashSet<>();
            for (List<Integer> stands : level) {
                if (stands.contains(much) && found == -2) {
                    found = pours;
                }
                for (int from = 0; from < 3; from++) {
                    for (int into = 0; into < 3; into++) {
                        Integer[] then = stands.toArray(new Integer[0]);
                        while (from != into && then[from] > 0 && then[into] < b[2 * into]) {
                            then[from]--;
                            then[into]++;
                        }
                        if (!seen.contains(List.of(then))) {
                            next.add(List.of(then));
                        }
                    }
                }
            }
            level = next;
        }
        return what == 0 ? found : seen.size();
    }

    int cellar(int n, int from, int what) {
        if (n < 1 || n > 8 || from < 0 || from > 99 || what != 100 && (what < 0 || what >= n) || lacks(2 * n, 1, 16)) {
            return -1;
        }
        int[] b = bytes(2 * n);
        for (int i = 0; i < n; i++) {
            if (b[2 * i] > 99 || b[2 * i + 1] > 50) {
                return -3;
            }
        }
        List<List<Integer>> all = new ArrayList<>();
        rows(n, new ArrayList<>(), all);
        int least = Integer.MAX_VALUE;
        List<Integer> best = null;
        for (List<Integer> row : all) {
            int lost = 0;
            for (int i = 0; i < n; i++) {
                lost += b[2 * row.get(i) + 1] * Math.abs(b[2 * row.get(i)] - from - i);
            }
            if (lost < least) {
                least = lost;
                best = row;
            }
        }
        return what == 100 ? least : best.get(what);
    }

    int wear(int n, int good, int what) {
        if (good < 0 || good > 99 || what < 0 || what > 1 || lacks(n, 1, 10)) {
            return -1;
        }
        int[] b = bytes(n);
        for (int h : b) {
            if (h > 9) {
                return -3;
            }
        }
        int best = 0;
        for (int bits = 0; bits < 1 << n; bits++) {
            int hard = 0;
            int worth = 0;
            for (int j = 0; j < n; j++) {
                hard += (bits >> j & 1) * b[j];
                worth += (bits >> j & 1) * b[j] * b[j];
            }
            if (hard <= good) {
                best = Math.max(best, what == 0 ? Integer.bitCount(bits) : worth);
            }
        }
        return best;
    }

    boolean seed(int s) {
        if (s < 0 || s > 65535) {
            return false;
        }
        x = s;
        return true;
    }

    int keep() {
        keptPeople = new Person[12];
        for (int k = 0; k < 12; k++) {
            keptPeople[k] = people[k].copy();
        }
        keptScrew = screw;
        keptConfessed = confessed;
        keptX = x;
        return confessed;
    }

    boolean undo() {
        if (keptPeople == null) {
            return false;
        }
        for (int k = 0; k < 12; k++) {
            Person p = keptPeople[k].copy();
            p.layers = people[k].layers;
            p.told = people[k].told;
            p.out = Math.min(p.out, p.layers.size());
            people[k] = p;
        }
        screw = keptScrew;
        confessed = keptConfessed;
        x = keptX;
        return true;
    }

    int check(int n) {
        if (lacks(n, 0, 12)) {
            return -2;
        }
        int[] b = bytes(n);
        for (int k = 0; k < n; k++) {
            if (b[k] != (people[k].told ? people[k].out : 255)) {
                return k;
            }
        }
        return -1;
    }

    int count(int what) {
        int told = 0;
        int broken = 0;
        int open = 0;
        int left = 0;
        for (int k = 0; k < 12; k++) {
            told |= people[k].told ? 1 << k : 0;
            broken |= people[k].broken ? 1 << k : 0;
            open |= people[k].open ? 1 << k : 0;
            left += people[k].left().size();
        }
        int[] all = {confessed, told, broken, open, screw, rules, tape.size(), x, left};
        return what < 0 || what > 8 ? -1 : all[what];
    }
}
