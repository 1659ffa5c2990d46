import java.util.Arrays;

/** A vintner state in which whoever is accused is drawn like a bottle; ../shared/DOC.md tells its promises. */
public final class CorkConfessions {
    public static final int NONE = -1;

    private static final int NOT_SO = -2;
    private static final int WRONG_BYTES = -3;
    private static final int WITNESSES = 12;
    private static final int LAYERS = 24;
    private static final int YEARS = 100;
    private static final int SINS = 16;
    private static final int ALL_SINS = 65535;
    private static final int SCRATCH = 100;
    private static final int FIZZ_MOST = 19;
    private static final int CORK_MOST = 9;
    private static final int TURNS_MOST = 9;
    private static final int POUR_MOST = 9;
    private static final int SCREW_MOST = 99;
    private static final int CONFESSED_MOST = 9999;
    private static final int SEED_MOST = 65535;
    private static final int TAPE_BYTES = 260;
    private static final int WITNESS_BYTES = 80;
    private static final int DRAWING_BYTES = 60;
    private static final int LAW_BYTES = 240;
    private static final int RULES = 16;
    private static final int DEEDS = 96;
    private static final int NOT_TOLD = 255;
    private static final int JURY_MOST = 12;
    private static final int TENTHS = 10;
    private static final int WINES_MOST = 6;
    private static final int TASTERS_MOST = 9;
    private static final int JUG_MOST = 20;
    private static final int BOTTLES_MOST = 8;
    private static final int WORTH_MOST = 50;
    private static final int CORKS_MOST = 10;
    private static final int HARD_MOST = 9;
    private static final int IN_ALL = 100;
    /** Above the price of any row. */
    private static final int FAR = 1000000;
    private static final int END = -1;
    /** How many of ( [ ! may be open in one another in THE LAW. */
    private static final int OPEN_MOST = 6;
    /** Far above what six open in one another can need. */
    private static final int STACK = 32;

    private static final int TURN = 0;
    private static final int PULL = 1;
    private static final int SHAKE = 2;
    private static final int BREATHE = 3;
    private static final int POUR = 4;
    private static final int CORK = 5;
    private static final int DEED_KINDS = 6;
    private static final String DEED_LETTERS = "tpsboc";
    private static final String RULE_LETTERS = "gfadx";
    private static final String KNOWN_LETTERS = "knzcuysiw";

    private final Witness[] witnesses = new Witness[WITNESSES];
    private final int[] tape = new int[TAPE_BYTES];
    private int tapeSize = 0;
    private final Law law = new Law();
    private final LawReader lawReader = new LawReader();
    private final Rounds rounds = new Rounds();
    private final Butler butler = new Butler();
    private final Planner planner = new Planner();
    private final Tasters tastersRow = new Tasters();
    private final Cellar cellarRow = new Cellar();
    private final Jugs threeJugs = new Jugs();
    private final int[] scratch = new int[SCRATCH];
    private final long[] ways = new long[JURY_MOST + 1];
    private int screwLeft = SCREW_MOST;
    private int confessed = 0;
    private int drawn = 1;
    private boolean hasKept = false;
    private int keptScrew = 0;
    private int keptConfessed = 0;
    private int keptDrawn = 0;

    public CorkConfessions() {
        for (int k = 0; k < WITNESSES; k++) {
            witnesses[k] = new Witness();
        }
    }

    public boolean screw(int turns) {
        if (turns < 0 || turns > SCREW_MOST) {
            return false;
        }
        screwLeft = turns;
        return true;
    }

    public int feed(int a, int b, int c, int d, int e) {
        if (tapeSize + 20 > TAPE_BYTES) {
            return NONE;
        }
        putBytes(a);
        putBytes(b);
        putBytes(c);
        putBytes(d);
        putBytes(e);
        return tapeSize;
    }

    public int law(int n) {
        if (!tapeHas(n, 1, LAW_BYTES)) {
            return NONE;
        }
        tapeSize = 0;
        int answer = lawReader.read(tape, n);
        if (answer >= 0) {
            law.take(lawReader.draft);
        }
        return answer;
    }

    public int witness(int k, int n) {
        if (k < 0 || k >= WITNESSES || !tapeHas(n, 1, WITNESS_BYTES)) {
            return NONE;
        }
        tapeSize = 0;
        int answer = rounds.read(tape, n, true);
        if (answer >= 0) {
            witnesses[k].tell(rounds.items, answer);
        }
        return answer;
    }

    public int draw(int k, int n) {
        if (!isTold(k) || !tapeHas(n, 1, DRAWING_BYTES)) {
            return NONE;
        }
        int fault = rehearse(k, n);
        if (fault < 0) {
            return fault;
        }
        witnesses[k].now.take(butler.state);
        screwLeft = butler.screwLeft;
        drawn = butler.drawn;
        confessed = Math.min(CONFESSED_MOST, confessed + butler.came);
        return butler.came;
    }

    public int tried(int k, int n, int what) {
        if (what < 0 || what > 7 || !isTold(k) || !tapeHas(n, 1, DRAWING_BYTES)) {
            return NONE;
        }
        int fault = rehearse(k, n);
        if (fault < 0) {
            return fault;
        }
        switch (what) {
            case 0: return butler.came;
            case 1: return butler.brokenAt;
            case 2: return butler.state.fizz;
            case 3: return butler.state.cork;
            case 4: return butler.state.turns;
            case 5: return butler.state.open ? 1 : 0;
            case 6: return butler.lastYear();
            default: return butler.screwLeft;
        }
    }

    public int witnessIs(int k, int what) {
        if (!isTold(k)) {
            return NONE;
        }
        Witness of = witnesses[k];
        switch (what) {
            case 0: return of.layers;
            case 1: return of.now.out;
            case 2: return of.now.fizz;
            case 3: return of.now.cork;
            case 4: return of.now.turns;
            case 5: return of.now.open ? 1 : 0;
            case 6: return of.now.broken ? 1 : 0;
            case 7: return of.oldestLeft();
            case 8: return of.youngestLeft();
            case 9: return of.sinsLeft();
            default: return NONE;
        }
    }

    public int layerIs(int k, int i, int what) {
        if (!isTold(k) || i < 0 || i >= witnesses[k].layers) {
            return NONE;
        }
        switch (what) {
            case 0: return witnesses[k].year[i];
            case 1: return witnesses[k].sin[i];
            case 2: return i < witnesses[k].now.out ? 1 : 0;
            default: return NONE;
        }
    }

    public int plan(int k, int year, int what) {
        if (!isTold(k) || year < 0 || year >= YEARS || what < 0 || what > 1) {
            return NONE;
        }
        int target = witnesses[k].nextOf(year);
        if (target < 0 || witnesses[k].now.broken) {
            return NOT_SO;
        }
        butler.begin(k, witnesses[k], law, SCREW_MOST, drawn);
        if (!planner.seek(butler, target)) {
            return -3;
        }
        return what == 0 ? planner.fewest : planner.first;
    }

    public int heard(int sins, int what) {
        if (sins < 0 || sins >= 1 << SINS || what < 0 || what > 1) {
            return NONE;
        }
        for (int k = 0; k < WITNESSES; k++) {
            scratch[k] = witnesses[k].sinsLeft() & sins;
        }
        int best = (1 << WITNESSES) - 1;
        if (scratchOf(best) != sins) {
            return NOT_SO;
        }
        int fewest = WITNESSES;
        for (int bits = 0; bits < 1 << WITNESSES; bits++) {
            if (Integer.bitCount(bits) < fewest && scratchOf(bits) == sins) {
                best = bits;
                fewest = Integer.bitCount(bits);
            }
        }
        return what == 0 ? fewest : best;
    }

    public int agree(int k, int l) {
        if (!isTold(k) || !isTold(l)) {
            return NONE;
        }
        Witness one = witnesses[k];
        Witness other = witnesses[l];
        Arrays.fill(scratch, 0);
        for (int i = 0; i < one.layers; i++) {
            int diagonal = 0;
            for (int j = 0; j < other.layers; j++) {
                int above = scratch[j + 1];
                boolean same = one.year[i] == other.year[j] && one.sin[i] == other.sin[j];
                scratch[j + 1] = same ? diagonal + 1 : Math.max(above, scratch[j]);
                diagonal = above;
            }
        }
        return scratch[other.layers];
    }

    public int atOdds(int k, int l) {
        if (!isTold(k) || !isTold(l)) {
            return NONE;
        }
        Arrays.fill(scratch, 0);
        gatherSins(witnesses[k], 0);
        gatherSins(witnesses[l], SINS);
        int many = 0;
        for (int year = 0; year < YEARS; year++) {
            int ofOne = scratch[year] & ALL_SINS;
            int ofOther = scratch[year] >>> SINS;
            if (ofOne != 0 && ofOther != 0 && (ofOne & ofOther) == 0) {
                many++;
            }
        }
        return many;
    }

    public int years(int m, int what) {
        if (m < 1 || m > WITNESSES || what < 0 || what > 1) {
            return NONE;
        }
        gatherWitnessesByYear();
        int many = 0;
        int first = NOT_SO;
        for (int year = YEARS - 1; year >= 0; year--) {
            if (Integer.bitCount(scratch[year]) >= m) {
                many++;
                first = year;
            }
        }
        return what == 0 ? many : first;
    }

    public int peak(int what) {
        if (what < 0 || what > 1) {
            return NONE;
        }
        gatherLayersByYear();
        int most = 0;
        int best = NOT_SO;
        for (int year = 0; year < YEARS; year++) {
            if (scratch[year] > most) {
                most = scratch[year];
                best = year;
            }
        }
        return what == 0 ? best : most;
    }

    public int who(int sin) {
        if (sin < 0 || sin >= SINS) {
            return NONE;
        }
        int bits = 0;
        for (int k = 0; k < WITNESSES; k++) {
            if ((witnesses[k].sinsLeft() >> sin & 1) == 1) {
                bits |= 1 << k;
            }
        }
        return bits;
    }

    public long jury(int n, int k) {
        if (k < 0 || k > JURY_MOST || !tapeHas(n, 1, JURY_MOST)) {
            return NONE;
        }
        tapeSize = 0;
        if (anyAbove(n, 0, 1, TENTHS)) {
            return NOT_SO;
        }
        countWays(n);
        long sum = 0;
        for (int many = k; many <= n; many++) {
            sum += ways[many];
        }
        return sum;
    }

    public int tasters(int n, int m, int what) {
        boolean known = n >= 2 && n <= WINES_MOST && m >= 1 && m <= TASTERS_MOST;
        if (!known || !isPlace(what, n) || !tapeHas(n * m, 1, TAPE_BYTES)) {
            return NONE;
        }
        tapeSize = 0;
        if (!tastersRow.hear(tape, n, m)) {
            return WRONG_BYTES;
        }
        tastersRow.reckon(n);
        return what == IN_ALL ? tastersRow.price() : tastersRow.standsAt(what);
    }

    public int jugs(int much, int what) {
        if (much < 0 || much > JUG_MOST || what < 0 || what > 1 || !tapeHas(6, 6, 6)) {
            return NONE;
        }
        tapeSize = 0;
        if (!threeJugs.fill(tape)) {
            return WRONG_BYTES;
        }
        threeJugs.pourAll();
        return what == 0 ? threeJugs.fewestTill(much) : threeJugs.rowSize;
    }

    public int cellar(int n, int from, int what) {
        boolean known = n >= 1 && n <= BOTTLES_MOST && from >= 0 && from < YEARS;
        if (!known || !isPlace(what, n) || !tapeHas(2 * n, 2, 2 * BOTTLES_MOST)) {
            return NONE;
        }
        tapeSize = 0;
        if (anyAbove(2 * n, 0, 2, YEARS - 1) || anyAbove(2 * n, 1, 2, WORTH_MOST)) {
            return WRONG_BYTES;
        }
        cellarRow.store(tape, n, from);
        cellarRow.reckon(n);
        return what == IN_ALL ? cellarRow.price() : cellarRow.standsAt(what);
    }

    public int wear(int n, int good, int what) {
        boolean known = good >= 0 && good <= SCREW_MOST && what >= 0 && what <= 1;
        if (!known || !tapeHas(n, 1, CORKS_MOST)) {
            return NONE;
        }
        tapeSize = 0;
        if (anyAbove(n, 0, 1, HARD_MOST)) {
            return WRONG_BYTES;
        }
        return mostOfCorks(n, good, what == 1);
    }

    public boolean seed(int x) {
        if (x < 0 || x > SEED_MOST) {
            return false;
        }
        drawn = x;
        return true;
    }

    public int keep() {
        hasKept = true;
        keptScrew = screwLeft;
        keptConfessed = confessed;
        keptDrawn = drawn;
        for (int k = 0; k < WITNESSES; k++) {
            witnesses[k].kept.take(witnesses[k].now);
        }
        return confessed;
    }

    public boolean undo() {
        if (!hasKept) {
            return false;
        }
        screwLeft = keptScrew;
        confessed = keptConfessed;
        drawn = keptDrawn;
        for (int k = 0; k < WITNESSES; k++) {
            witnesses[k].comeBack();
        }
        return true;
    }

    public int check(int n) {
        if (!tapeHas(n, 0, WITNESSES)) {
            return NOT_SO;
        }
        tapeSize = 0;
        for (int k = 0; k < n; k++) {
            int due = witnesses[k].told ? witnesses[k].now.out : NOT_TOLD;
            if (tape[k] != due) {
                return k;
            }
        }
        return NONE;
    }

    public int count(int what) {
        switch (what) {
            case 0: return confessed;
            case 1: return toldBits();
            case 2: return brokenBits();
            case 3: return openBits();
            case 4: return screwLeft;
            case 5: return law.rules;
            case 6: return tapeSize;
            case 7: return drawn;
            case 8: return layersLeft();
            default: return NONE;
        }
    }

    private void putBytes(int word) {
        for (int shift = 24; shift >= 0; shift -= 8) {
            if (tapeSize < TAPE_BYTES) {
                tape[tapeSize] = word >>> shift & 255;
                tapeSize++;
            }
        }
    }

    private boolean tapeHas(int n, int least, int most) {
        return n >= least && n <= most && n <= tapeSize;
    }

    private boolean isTold(int k) {
        return k >= 0 && k < WITNESSES && witnesses[k].told;
    }

    private static boolean isPlace(int what, int n) {
        return what == IN_ALL || what >= 0 && what < n;
    }

    /** Whether one of the bytes from..n-1 of the tape, every step-th, is above most. */
    private boolean anyAbove(int n, int from, int step, int most) {
        for (int i = from; i < n; i += step) {
            if (tape[i] > most) {
                return true;
            }
        }
        return false;
    }

    /** A FAULT, or 0 when the butler has done the DRAWING on his copy, from which it can be taken over. */
    private int rehearse(int k, int n) {
        tapeSize = 0;
        int deeds = rounds.read(tape, n, false);
        if (deeds < 0) {
            return deeds;
        }
        butler.begin(k, witnesses[k], law, screwLeft, drawn);
        butler.follow(rounds.items, deeds);
        return 0;
    }

    private int scratchOf(int bits) {
        int sins = 0;
        for (int k = 0; k < WITNESSES; k++) {
            if ((bits >> k & 1) == 1) {
                sins |= scratch[k];
            }
        }
        return sins;
    }

    /** SINS of all LAYERS by their YEAR, as bits from shift on, so that two WITNESSES go into one row. */
    private void gatherSins(Witness of, int shift) {
        for (int i = 0; i < of.layers; i++) {
            scratch[of.year[i]] |= 1 << (of.sin[i] + shift);
        }
    }

    private void gatherWitnessesByYear() {
        Arrays.fill(scratch, 0);
        for (int k = 0; k < WITNESSES; k++) {
            for (int i = witnesses[k].now.out; i < witnesses[k].layers; i++) {
                scratch[witnesses[k].year[i]] |= 1 << k;
            }
        }
    }

    private void gatherLayersByYear() {
        Arrays.fill(scratch, 0);
        for (int k = 0; k < WITNESSES; k++) {
            for (int i = witnesses[k].now.out; i < witnesses[k].layers; i++) {
                scratch[witnesses[k].year[i]]++;
            }
        }
    }

    private void countWays(int n) {
        Arrays.fill(ways, 0);
        ways[0] = 1;
        for (int j = 0; j < n; j++) {
            int tenths = tape[j];
            for (int many = j + 1; many > 0; many--) {
                ways[many] = ways[many] * (TENTHS - tenths) + ways[many - 1] * tenths;
            }
            ways[0] = ways[0] * (TENTHS - tenths);
        }
    }

    /** The row holds the most that can be had by each hardness yet to spare. */
    private int mostOfCorks(int n, int good, boolean byWorth) {
        Arrays.fill(scratch, 0);
        for (int j = 0; j < n; j++) {
            int hard = tape[j];
            int gain = byWorth ? hard * hard : 1;
            for (int spare = good; spare >= hard; spare--) {
                scratch[spare] = Math.max(scratch[spare], scratch[spare - hard] + gain);
            }
        }
        return scratch[good];
    }

    private int toldBits() {
        int bits = 0;
        for (int k = 0; k < WITNESSES; k++) {
            bits |= witnesses[k].told ? 1 << k : 0;
        }
        return bits;
    }

    private int brokenBits() {
        int bits = 0;
        for (int k = 0; k < WITNESSES; k++) {
            bits |= witnesses[k].now.broken ? 1 << k : 0;
        }
        return bits;
    }

    private int openBits() {
        int bits = 0;
        for (int k = 0; k < WITNESSES; k++) {
            bits |= witnesses[k].now.open ? 1 << k : 0;
        }
        return bits;
    }

    private int layersLeft() {
        int left = 0;
        for (int k = 0; k < WITNESSES; k++) {
            left += witnesses[k].layers - witnesses[k].now.out;
        }
        return left;
    }

    private static int placeIn(String letters, int sign) {
        for (int i = 0; i < letters.length(); i++) {
            if (letters.charAt(i) == sign) {
                return i;
            }
        }
        return NONE;
    }

    private static boolean isDigit(int sign) {
        return sign >= '0' && sign <= '9';
    }

    /** What changes of a WITNESS when he is drawn. */
    private static final class State {
        int fizz = 0;
        int cork = CORK_MOST;
        int turns = 0;
        int out = 0;
        boolean open = false;
        boolean broken = false;

        void renew() {
            fizz = 0;
            cork = CORK_MOST;
            turns = 0;
            out = 0;
            open = false;
            broken = false;
        }

        void take(State other) {
            fizz = other.fizz;
            cork = other.cork;
            turns = other.turns;
            out = other.out;
            open = other.open;
            broken = other.broken;
        }

        void opens() {
            open = true;
            turns = 0;
        }

        void corks() {
            open = false;
            cork = CORK_MOST;
            turns = 0;
        }

        void loosen(int by) {
            cork -= by;
            if (cork <= 0) {
                cork = 0;
                broken = true;
            }
        }
    }

    private static final class Witness {
        final int[] year = new int[LAYERS];
        final int[] sin = new int[LAYERS];
        final State now = new State();
        final State kept = new State();
        int layers = 0;
        boolean told = false;

        void tell(int[] items, int many) {
            layers = Math.min(many, LAYERS);
            for (int i = 0; i < layers; i++) {
                year[i] = items[i] / SINS;
                sin[i] = items[i] % SINS;
            }
            now.renew();
            told = true;
        }

        void comeBack() {
            now.take(kept);
            now.out = Math.min(now.out, layers);
        }

        int oldestLeft() {
            int oldest = NOT_SO;
            for (int i = now.out; i < layers; i++) {
                oldest = oldest == NOT_SO ? year[i] : Math.min(oldest, year[i]);
            }
            return oldest;
        }

        int youngestLeft() {
            int youngest = NOT_SO;
            for (int i = now.out; i < layers; i++) {
                youngest = Math.max(youngest, year[i]);
            }
            return youngest;
        }

        int sinsLeft() {
            int bits = 0;
            for (int i = now.out; i < layers; i++) {
                bits |= 1 << sin[i];
            }
            return bits;
        }

        int nextOf(int wanted) {
            for (int i = now.out; i < layers; i++) {
                if (year[i] == wanted) {
                    return i;
                }
            }
            return NONE;
        }
    }

    /** Reads the two languages with rounds: WITNESSES (LAYERS as YEAR times 16 plus SIN) and DRAWINGS. */
    private static final class Rounds {
        final int[] items = new int[DEEDS];
        private int[] text = items;
        private int length = 0;
        private int at = 0;
        private int size = 0;
        private int most = 0;
        private int fault = 0;
        private boolean ofLayers = false;

        /** How many items, or a FAULT. */
        int read(int[] bytes, int n, boolean layers) {
            text = bytes;
            length = Math.min(n, bytes.length);
            at = 0;
            size = 0;
            fault = 0;
            ofLayers = layers;
            most = layers ? LAYERS : DEEDS;
            return several(0) && closes(END) ? size : fault;
        }

        private int next() {
            return at >= 0 && at < length ? text[at] : END;
        }

        private boolean fails(int number, int place) {
            fault = -1000 * number - place;
            return false;
        }

        private boolean closes(int sign) {
            if (next() != sign) {
                return fails(1, at);
            }
            at++;
            return true;
        }

        private boolean several(int depth) {
            for (int more = 0; more < length; more++) {
                if (!single(depth)) {
                    return false;
                }
                if (next() == END || next() == ')') {
                    return true;
                }
            }
            return fails(1, at);
        }

        private boolean single(int depth) {
            int start = at;
            int from = size;
            int times = times();
            if (times == 0) {
                return fails(1, at);
            }
            if (next() == '(') {
                if (depth >= 2) {
                    return fails(5, at);
                }
                at++;
                if (!several(depth + 1) || !closes(')')) {
                    return false;
                }
            } else if (!plain()) {
                return fails(1, at);
            }
            if (from + (size - from) * times > most) {
                return fails(6, start);
            }
            repeat(from, times);
            return true;
        }

        /** How often what follows comes; 0: what can't stand there. */
        private int times() {
            if (ofLayers) {
                if (next() != '*') {
                    return 1;
                }
                at++;
            } else if (!isDigit(next())) {
                return 1;
            }
            int sign = next();
            if (sign < '2' || sign > '9') {
                return 0;
            }
            at++;
            return sign - '0';
        }

        private boolean plain() {
            if (!ofLayers) {
                return put(placeIn(DEED_LETTERS, next()));
            }
            int year = 0;
            for (int digit = 0; digit < 2; digit++) {
                if (!isDigit(next())) {
                    return false;
                }
                year = year * 10 + next() - '0';
                at++;
            }
            int sin = next() - 'a';
            return sin >= 0 && sin < SINS && put(year * SINS + sin);
        }

        private boolean put(int item) {
            if (item < 0) {
                return false;
            }
            // One too many is counted but not stored: what it stands in is then at FAULT.
            if (size < items.length) {
                items[size] = item;
            }
            size++;
            at++;
            return true;
        }

        private void repeat(int from, int times) {
            int many = size - from;
            int end = Math.min(from + many * times, items.length);
            for (int i = size; i < end; i++) {
                items[i] = items[i - many];
            }
            size = end;
        }
    }

    /** THE LAW as a row of signs for a reckoner with a stack: low eight bits what, the rest a number or a place. */
    private static final class Law {
        static final int NUMBER = 'N';
        static final int KNOWN = 'K';
        final int[] code = new int[LAW_BYTES];
        final int[] letter = new int[RULES];
        final int[] eFrom = new int[RULES];
        final int[] cFrom = new int[RULES];
        final int[] cEnd = new int[RULES];
        final int[] known = new int[KNOWN_LETTERS.length()];
        private final int[] stack = new int[STACK];
        int rules = 0;

        void take(Law other) {
            System.arraycopy(other.code, 0, code, 0, LAW_BYTES);
            System.arraycopy(other.letter, 0, letter, 0, RULES);
            System.arraycopy(other.eFrom, 0, eFrom, 0, RULES);
            System.arraycopy(other.cFrom, 0, cFrom, 0, RULES);
            System.arraycopy(other.cEnd, 0, cEnd, 0, RULES);
            rules = other.rules;
        }

        int amount(int wanted, int most) {
            for (int r = 0; r < rules; r++) {
                if (letter[r] == wanted && reckon(cFrom[r], cEnd[r]) != 0) {
                    return Math.max(0, Math.min(most, reckon(eFrom[r], cFrom[r])));
                }
            }
            return 0;
        }

        boolean breaks() {
            for (int r = 0; r < rules; r++) {
                if (letter[r] == 'x' && reckon(cFrom[r], cEnd[r]) != 0) {
                    return true;
                }
            }
            return false;
        }

        /** 0 when a division is REFUSED: a C then does not hold, an E then is 0. */
        private int reckon(int from, int end) {
            int top = 0;
            int at = from;
            for (int step = 0; step < LAW_BYTES && at >= 0 && at < end && at < LAW_BYTES; step++) {
                int what = code[at] & 255;
                int number = code[at] >>> 8;
                at++;
                if (what == NUMBER || what == KNOWN) {
                    if (top >= STACK || what == KNOWN && number >= known.length) {
                        return 0;
                    }
                    stack[top] = what == NUMBER ? number : known[number];
                    top++;
                } else if (top < 1) {
                    return 0;
                } else if (what == '!') {
                    stack[top - 1] = stack[top - 1] == 0 ? 1 : 0;
                } else if (what == '|' || what == '&') {
                    // The value that settles it stays as the answer; else the right side puts its own.
                    boolean holds = stack[top - 1] != 0;
                    if (holds == (what == '|')) {
                        at = number;
                    } else {
                        top--;
                    }
                } else {
                    boolean byZero = (what == '/' || what == '%') && stack[top - 1] == 0;
                    if (top < 2 || byZero) {
                        return 0;
                    }
                    top--;
                    stack[top - 1] = joined(what, stack[top - 1], stack[top]);
                }
            }
            return top > 0 ? stack[top - 1] : 0;
        }

        private static int joined(int sign, int left, int right) {
            switch (sign) {
                case '+': return left + right;
                case '-': return left - right;
                case '*': return left * right;
                case '/': return right == 0 ? 0 : left / right;
                case '%': return right == 0 ? 0 : left % right;
                case '<': return left < right ? 1 : 0;
                case '>': return left > right ? 1 : 0;
                default: return left == right ? 1 : 0;
            }
        }
    }

    /** Reads the text of THE LAW into a draft, so that a FAULT leaves the one before. */
    private static final class LawReader {
        final Law draft = new Law();
        private int[] text = draft.code;
        private int length = 0;
        private int at = 0;
        private int size = 0;
        private int fault = 0;

        /** How many RULES, or a FAULT. */
        int read(int[] bytes, int n) {
            text = bytes;
            length = Math.min(n, bytes.length);
            at = 0;
            size = 0;
            fault = 0;
            draft.rules = 0;
            for (int r = 0; r <= RULES; r++) {
                if (!rule()) {
                    return fault;
                }
                if (next() == END) {
                    return draft.rules;
                }
                if (!passes(';')) {
                    return fault;
                }
            }
            return fault;
        }

        private int next() {
            return at >= 0 && at < length ? text[at] : END;
        }

        private boolean fails(int number) {
            fault = -1000 * number - at;
            return false;
        }

        private boolean passes(int sign) {
            if (next() != sign) {
                return fails(1);
            }
            at++;
            return true;
        }

        private boolean rule() {
            int letter = next();
            if (placeIn(RULE_LETTERS, letter) < 0) {
                return fails(1);
            }
            int r = draft.rules;
            if (r < 0 || r >= RULES) {
                return fails(4);
            }
            at++;
            draft.letter[r] = letter;
            draft.eFrom[r] = size;
            if (letter != 'x' && !sum(0)) {
                return false;
            }
            draft.cFrom[r] = size;
            if (!passes('(') || !choice(1) || !passes(')')) {
                return false;
            }
            draft.cEnd[r] = size;
            draft.rules++;
            return true;
        }

        /** A C; depth is how many of ( [ ! are open around it. An & lands behind its TEST, a | behind its PART. */
        private boolean choice(int depth) {
            int waiting = NONE;
            if (!test(depth)) {
                return false;
            }
            for (int more = 0; more < LAW_BYTES && (next() == '|' || next() == '&'); more++) {
                int sign = next();
                at++;
                if (sign == '|') {
                    land(waiting);
                }
                int leap = emit(sign, 0);
                if (!test(depth)) {
                    return false;
                }
                if (sign == '|') {
                    waiting = leap;
                } else {
                    land(leap);
                }
            }
            land(waiting);
            return true;
        }

        private boolean test(int depth) {
            int sign = next();
            if (sign == '!' || sign == '(') {
                if (depth >= OPEN_MOST) {
                    return fails(5);
                }
                at++;
                if (sign == '(') {
                    return choice(depth + 1) && passes(')');
                }
                if (!test(depth + 1)) {
                    return false;
                }
                emit('!', 0);
                return true;
            }
            if (!sum(depth)) {
                return false;
            }
            int compare = next();
            if (compare != '<' && compare != '>' && compare != '=') {
                return fails(1);
            }
            at++;
            if (!sum(depth)) {
                return false;
            }
            emit(compare, 0);
            return true;
        }

        /** An E: a + or - waits until the TERM behind it has ended. */
        private boolean sum(int depth) {
            int waiting = NONE;
            if (!factor(depth)) {
                return false;
            }
            for (int more = 0; more < LAW_BYTES && placeIn("+-*/%", next()) >= 0; more++) {
                int sign = next();
                at++;
                boolean adds = sign == '+' || sign == '-';
                if (adds && waiting != NONE) {
                    emit(waiting, 0);
                }
                if (!factor(depth)) {
                    return false;
                }
                if (adds) {
                    waiting = sign;
                } else {
                    emit(sign, 0);
                }
            }
            if (waiting != NONE) {
                emit(waiting, 0);
            }
            return true;
        }

        private boolean factor(int depth) {
            int sign = next();
            if (sign == '[') {
                if (depth >= OPEN_MOST) {
                    return fails(5);
                }
                at++;
                return sum(depth + 1) && passes(']');
            }
            int known = placeIn(KNOWN_LETTERS, sign);
            if (known >= 0) {
                at++;
                emit(Law.KNOWN, known);
                return true;
            }
            if (!isDigit(sign)) {
                return fails(1);
            }
            int number = 0;
            for (int digit = 0; digit < 5 && isDigit(next()); digit++) {
                number = number * 10 + next() - '0';
                at++;
            }
            if (isDigit(next())) {
                return fails(2);
            }
            emit(Law.NUMBER, number);
            return true;
        }

        /** Each sign of the row stands for at least one byte of the text, so the row is always long enough. */
        private int emit(int what, int number) {
            int place = size;
            if (place >= 0 && place < LAW_BYTES) {
                draft.code[place] = what | number << 8;
                size++;
            }
            return place;
        }

        private void land(int leap) {
            if (leap >= 0 && leap < LAW_BYTES) {
                draft.code[leap] = draft.code[leap] & 255 | size << 8;
            }
        }
    }

    /** Does DEEDS on a copy of a WITNESS's state, with a SCREW and DRAWS of his own. */
    private static final class Butler {
        final State state = new State();
        private Witness of = new Witness();
        private Law by = new Law();
        private int k = 0;
        int screwLeft = 0;
        int drawn = 0;
        int came = 0;
        int brokenAt = NOT_SO;

        void begin(int number, Witness witness, Law law, int screw, int seed) {
            k = number;
            of = witness;
            by = law;
            state.take(witness.now);
            screwLeft = screw;
            drawn = seed;
            came = 0;
            brokenAt = state.broken ? -3 : NOT_SO;
        }

        void follow(int[] deeds, int many) {
            for (int i = 0; i < many && i < deeds.length && !state.broken; i++) {
                drawn = 25173 * drawn + 13849 & SEED_MOST;
                perform(deeds[i], i, drawn % 10);
                if (state.broken) {
                    brokenAt = i;
                }
            }
        }

        int lastYear() {
            int last = state.out - 1;
            return came > 0 && last >= 0 && last < LAYERS ? of.year[last] : NOT_SO;
        }

        void perform(int deed, int i, int w) {
            switch (deed) {
                case TURN:
                    turn();
                    break;
                case PULL:
                    pull(i, w);
                    break;
                case SHAKE:
                    shake(i, w);
                    break;
                case BREATHE:
                    learn(i, w);
                    state.fizz = Math.max(0, state.fizz - by.amount('a', FIZZ_MOST));
                    break;
                case POUR:
                    pour(i, w);
                    break;
                case CORK:
                    state.corks();
                    break;
                default:
                    break;
            }
        }

        private void turn() {
            if (state.open || screwLeft <= 0) {
                return;
            }
            state.turns = Math.min(TURNS_MOST, state.turns + 1);
            screwLeft--;
            if (state.turns > 5) {
                state.loosen(1);
            }
        }

        private void pull(int i, int w) {
            if (state.open) {
                return;
            }
            learn(i, w);
            if (state.turns >= by.amount('g', TURNS_MOST) && !by.breaks()) {
                state.opens();
            } else {
                state.loosen(2);
            }
        }

        private void shake(int i, int w) {
            learn(i, w);
            state.fizz = Math.min(FIZZ_MOST, state.fizz + by.amount('f', FIZZ_MOST));
            if (!state.open && state.fizz == FIZZ_MOST) {
                state.opens();
                come(1);
            }
        }

        private void pour(int i, int w) {
            if (state.open) {
                learn(i, w);
                int many = come(by.amount('d', POUR_MOST));
                state.fizz = Math.max(0, state.fizz - many);
            }
        }

        private int come(int many) {
            int comes = Math.min(many, of.layers - state.out);
            state.out += comes;
            came += comes;
            return comes;
        }

        /** In the row of KNOWN_LETTERS. */
        private void learn(int i, int w) {
            int[] known = by.known;
            boolean left = state.out < of.layers && state.out < LAYERS;
            known[0] = k;
            known[1] = of.layers - state.out;
            known[2] = state.fizz;
            known[3] = state.cork;
            known[4] = state.turns;
            known[5] = left ? of.year[state.out] : 0;
            known[6] = left ? of.sin[state.out] : 0;
            known[7] = i;
            known[8] = w;
        }
    }

    /** Goes through the states that DEEDS lead to, those by fewer DEEDS and by lesser rows first. */
    private static final class Planner {
        private static final int DEPTH = 20;
        /** TURNS when he is not OPEN, one more place for OPEN: then TURNS are always 0. */
        private static final int NECKS = TURNS_MOST + 2;
        private static final int STATES = (LAYERS + 1) * (FIZZ_MOST + 1) * CORK_MOST * NECKS;
        private final int[] seen = new int[STATES / 32 + 1];
        /** Made by the first PLAN alone, as it is by far the biggest row; each: state times 8 plus the first DEED. */
        private int[] row = new int[0];
        private int rowSize = 0;
        int fewest = 0;
        int first = 0;

        boolean seek(Butler butler, int target) {
            if (row.length == 0) {
                row = new int[STATES];
            }
            Arrays.fill(seen, 0);
            rowSize = 0;
            note(packed(butler.state), 0);
            int head = 0;
            for (int depth = 1; depth <= DEPTH; depth++) {
                int end = Math.min(rowSize, row.length);
                for (; head < end; head++) {
                    if (spread(butler, row[head], depth, target)) {
                        fewest = depth;
                        return true;
                    }
                }
            }
            return false;
        }

        private boolean spread(Butler butler, int entry, int depth, int target) {
            State there = butler.state;
            for (int deed = 0; deed < DEED_KINDS; deed++) {
                unpack(entry >> 3, there);
                butler.screwLeft = SCREW_MOST;
                butler.perform(deed, 0, 0);
                int firstDeed = depth == 1 ? deed : entry & 7;
                if (there.out > target) {
                    first = firstDeed;
                    return true;
                }
                if (!there.broken) {
                    note(packed(there), firstDeed);
                }
            }
            return false;
        }

        private void note(int place, int firstDeed) {
            boolean fits = place >= 0 && place < STATES && rowSize < row.length;
            if (fits && (seen[place >> 5] >>> (place & 31) & 1) == 0) {
                seen[place >> 5] |= 1 << (place & 31);
                row[rowSize] = place << 3 | firstDeed;
                rowSize++;
            }
        }

        private static int packed(State state) {
            int neck = state.open ? NECKS - 1 : state.turns;
            return ((state.out * (FIZZ_MOST + 1) + state.fizz) * CORK_MOST + state.cork - 1) * NECKS + neck;
        }

        private static void unpack(int place, State state) {
            int neck = place % NECKS;
            int rest = place / NECKS;
            state.open = neck == NECKS - 1;
            state.turns = state.open ? 0 : neck;
            state.cork = rest % CORK_MOST + 1;
            rest /= CORK_MOST;
            state.fizz = rest % (FIZZ_MOST + 1);
            state.out = rest / (FIZZ_MOST + 1);
            state.broken = false;
        }
    }

    /** The row of all things, each just once, that costs least; of like ones the least row. */
    private abstract static class LeastRow {
        /** The least that those not yet standing cost, by the bits of those that stand. */
        private final int[] rest = new int[1 << BOTTLES_MOST];
        private int many = 0;

        /** What it costs that which comes next when those of the bits stand ahead of it. */
        abstract int cost(int standing, int which);

        void reckon(int things) {
            many = Math.max(0, Math.min(things, BOTTLES_MOST));
            int all = (1 << many) - 1;
            rest[all] = 0;
            for (int standing = all - 1; standing >= 0; standing--) {
                int next = bestNext(standing);
                rest[standing] = cost(standing, next) + rest[standing | 1 << next];
            }
        }

        int price() {
            return rest[0];
        }

        int standsAt(int place) {
            int standing = 0;
            int next = 0;
            for (int p = 0; p <= place && p < many; p++) {
                next = bestNext(standing);
                standing |= 1 << next;
            }
            return next;
        }

        private int bestNext(int standing) {
            int best = 0;
            int least = FAR;
            for (int which = 0; which < many; which++) {
                if ((standing >> which & 1) == 0) {
                    int price = cost(standing, which) + rest[standing | 1 << which];
                    if (price < least) {
                        least = price;
                        best = which;
                    }
                }
            }
            return best;
        }
    }

    private static final class Tasters extends LeastRow {
        /** With how many TASTERS one wine stands ahead of another. */
        private final int[] ahead = new int[WINES_MOST * WINES_MOST];
        private int wines = 0;

        /** False: a row does not name each wine just once. */
        boolean hear(int[] bytes, int n, int m) {
            wines = Math.min(n, WINES_MOST);
            Arrays.fill(ahead, 0);
            for (int taster = 0; taster < m; taster++) {
                if (!hearOne(bytes, taster * wines)) {
                    return false;
                }
            }
            return true;
        }

        private boolean hearOne(int[] bytes, int from) {
            int named = 0;
            for (int i = from; i < from + wines && i < bytes.length; i++) {
                int wine = bytes[i];
                if (wine < 0 || wine >= wines || (named >> wine & 1) == 1) {
                    return false;
                }
                for (int other = 0; other < wines; other++) {
                    ahead[other * WINES_MOST + wine] += named >> other & 1;
                }
                named |= 1 << wine;
            }
            return true;
        }

        int cost(int standing, int which) {
            int cases = 0;
            for (int later = 0; later < wines; later++) {
                if (later != which && (standing >> later & 1) == 0) {
                    cases += ahead[later * WINES_MOST + which];
                }
            }
            return cases;
        }
    }

    private static final class Cellar extends LeastRow {
        private final int[] best = new int[BOTTLES_MOST];
        private final int[] worth = new int[BOTTLES_MOST];
        private int firstYear = 0;

        void store(int[] bytes, int n, int from) {
            firstYear = from;
            for (int i = 0; i < n && i < BOTTLES_MOST && 2 * i + 1 < bytes.length; i++) {
                best[i] = bytes[2 * i];
                worth[i] = bytes[2 * i + 1];
            }
        }

        int cost(int standing, int which) {
            int year = firstYear + Integer.bitCount(standing);
            return worth[which] * Math.abs(best[which] - year);
        }
    }

    /** How the wine stands is known by two jugs, as the third holds the rest. */
    private static final class Jugs {
        private static final int SIDE = JUG_MOST + 1;
        private final int[] big = new int[3];
        private final int[] full = new int[3];
        private final int[] pours = new int[SIDE * SIDE];
        private final int[] row = new int[SIDE * SIDE];
        private int wine = 0;
        int rowSize = 0;

        /** False: a jug is above 20, or fuller than it is big. */
        boolean fill(int[] bytes) {
            wine = 0;
            for (int jug = 0; jug < 3; jug++) {
                big[jug] = bytes[2 * jug];
                full[jug] = bytes[2 * jug + 1];
                if (big[jug] > JUG_MOST || full[jug] > big[jug]) {
                    return false;
                }
                wine += full[jug];
            }
            return true;
        }

        void pourAll() {
            Arrays.fill(pours, NONE);
            rowSize = 0;
            note(0);
            for (int head = 0; head < rowSize && head < row.length; head++) {
                int steps = pours[row[head]] + 1;
                for (int from = 0; from < 3; from++) {
                    for (int into = 0; into < 3; into++) {
                        if (from != into) {
                            stand(row[head]);
                            int much = Math.min(full[from], big[into] - full[into]);
                            full[from] -= much;
                            full[into] += much;
                            note(steps);
                        }
                    }
                }
            }
        }

        /** The row goes by pours, so the first that is found has the fewest. */
        int fewestTill(int much) {
            for (int i = 0; i < rowSize && i < row.length; i++) {
                stand(row[i]);
                if (full[0] == much || full[1] == much || full[2] == much) {
                    return pours[row[i]];
                }
            }
            return NOT_SO;
        }

        private void stand(int place) {
            full[0] = place / SIDE;
            full[1] = place % SIDE;
            full[2] = wine - full[0] - full[1];
        }

        private void note(int steps) {
            int place = full[0] * SIDE + full[1];
            if (place >= 0 && place < pours.length && pours[place] == NONE && rowSize < row.length) {
                pours[place] = steps;
                row[rowSize] = place;
                rowSize++;
            }
        }
    }
}
