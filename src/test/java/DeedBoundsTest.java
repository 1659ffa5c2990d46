/** The bounds of DEEDS, of what THE LAW tells, of DRAWS, CONFESSED, SCREW, and of PLAN. */
public final class DeedBoundsTest {
    public static void main(String[] args) {
        atFirst();
        lawBounds();
        knownLetters();
        wrapAround();
        dividedByNothing();
        conditions();
        longest();
        turns();
        pulls();
        shakes();
        breaths();
        pours();
        corks();
        broken();
        draws();
        confessed();
        triedAnswers();
        planTwenty();
        planFar();
        planBroken();
        planNeither();
        Cork.finish("DeedBoundsTest");
    }

    private static Cork with(String witness, String law) {
        Cork c = new Cork();
        c.witness(0, witness);
        if (!law.isEmpty()) {
            Cork.due("law " + law, c.law(law) > 0, true);
        }
        return c;
    }

    private static void tried(Cork c, String drawing, int what, int due) {
        Cork.due("tried " + drawing + ", what " + what, c.tried(0, drawing, what), due);
    }

    /** "FIZZ (0 to 19; 0 at first), CORK (0 to 9; 9 at first), TURNS (0 to 9; 0 at first), OPEN .., BROKEN ..". */
    private static void atFirst() {
        Cork c = with("61c", "");
        int[] due = {1, 0, 0, 9, 0, 0, 0, 61, 61, 4};
        for (int what = 0; what < due.length; what++) {
            Cork.due("at first " + what, c.x.witnessIs(0, what), due[what]);
        }
        Cork.due("CONFESSED at first", c.x.count(0), 0);
        Cork.due("SCREW at first", c.x.count(4), 99);
        Cork.due("THE SEED", c.x.count(7), 1);
    }

    /** "g (0 to 9), f (0 to 19), a (0 to 19), d (0 to 9)"; "beyond its bounds the bound; none: 0". */
    private static void lawBounds() {
        Cork c = with("*961c*960a", "g8(1=1)");
        tried(c, "7tp", 5, 0);
        tried(c, "8tp", 5, 1);
        c.law("g9(1=1)");
        tried(c, "8tp", 5, 0);
        tried(c, "9tp", 5, 1);
        c.law("g10(1=1)");
        tried(c, "9tp", 5, 1);
        tried(c, "8tp", 5, 0);
        c.law("g0(1=1)");
        tried(c, "p", 5, 1);
        c.law("g0-1(1=1)");
        tried(c, "p", 5, 1);
        c.law("g1(1=1)");
        tried(c, "p", 5, 0);
        c.law("g65536*32768(1=1)");
        tried(c, "p", 5, 1);
        c.law("fi+17(1=1);f0(1=1);a1(1=1)");
        tried(c, "s", 2, 17);
        c.law("f18(1=1)");
        tried(c, "s", 2, 18);
        tried(c, "s", 5, 0);
        c.law("f19(1=1)");
        tried(c, "s", 2, 19);
        tried(c, "s", 5, 1);
        c.law("f20(1=1)");
        tried(c, "s", 2, 19);
        c.law("f65536*32767+65535(1=1)");
        tried(c, "ss", 2, 19);
        c.law("f3-4*i(1=1)");
        tried(c, "ss", 2, 3);
        c.law("f19(1=1);a18(1=1)");
        tried(c, "sb", 2, 1);
        c.law("f19(1=1);a19(1=1)");
        tried(c, "sb", 2, 0);
        c.law("f19(1=1);a20(1=1)");
        tried(c, "sb", 2, 0);
        c.law("f9(1=1);a0-1(1=1)");
        tried(c, "sb", 2, 9);
        c.law("f9(1=1);a65536*32767+65535(1=1)");
        tried(c, "sb", 2, 0);
        c.law("d9(1=1)");
        tried(c, "po", 0, 9);
        c.law("d10(1=1)");
        tried(c, "po", 0, 9);
        tried(c, "poo", 0, 18);
        c.law("d0(1=1)");
        tried(c, "po", 0, 0);
        c.law("d1-2*i(1=1)");
        tried(c, "poo", 0, 0);
        c.law("d2-i(1=1)");
        tried(c, "p3o", 0, 1);
        c.law("x(1=2)");
        tried(c, "p", 5, 1);
        tried(c, "pso", 0, 0);
        tried(c, "s", 2, 0);
    }

    /** "y the YEAR of the top LAYER left, s its SIN (none left: 0), i .. (0 on)". */
    private static void knownLetters() {
        Cork c = with("99p00a", "d1(1=1);fy/11+s/15(n=2);fy+s+n(n=0);a19(1=1)");
        tried(c, "s", 2, 10);
        tried(c, "p2os", 2, 0);
        c.law("f1+y+s+n(n=0);d1(1=1)");
        tried(c, "p2os", 2, 1);
        c.law("fi+1(1=1)");
        tried(c, "s", 2, 1);
        c.law("fk+1(k=11);f2(k=0)");
        tried(c, "s", 2, 2);
        c.witness(11, "61c");
        Cork.due("k 11", c.tried(11, "s", 2), 12);
        Cork shorter = with("99p98o97n", "d1(1=1);fy+s+3(n=0)");
        shorter.witness(0, "61c");
        tried(shorter, "pos", 2, 3);
        shorter.draw(0, "po");
        tried(shorter, "s", 2, 3);
        shorter.law("g1+y+s(1=1)");
        tried(shorter, "ctp", 5, 1);
        Cork full = with("*961c*960a*659b", "fn-5(1=1)");
        tried(full, "s", 2, 19);
        full.law("fn-6(1=1)");
        tried(full, "s", 2, 18);
    }

    /** "All is reckoned with 32 bits, as the machine does". */
    private static void wrapAround() {
        Cork c = with("*961c", "x(65536*32767+65535+1=0-65536*32768)");
        tried(c, "p", 5, 0);
        c.law("x(0-65536*32768-1>0)");
        tried(c, "p", 5, 0);
        c.law("x(65536*65536=0)");
        tried(c, "p", 5, 0);
        // 9999800001 less twice 4294967296 is 1409865409
        c.law("x(99999*99999=14098*[50000+50000]+65409)");
        tried(c, "p", 5, 0);
        c.law("x([65536*32768]/[0-1]=65536*32768)");
        tried(c, "p", 5, 0);
        c.law("x([65536*32768]%[0-1]=0)");
        tried(c, "p", 5, 0);
        c.law("x([0-7]/2=0-3&[0-7]%2=0-1&7/[0-2]=0-3&7%[0-2]=1)");
        tried(c, "p", 5, 0);
    }

    /** "What is divided by 0 is REFUSED: then the whole C of the RULE does not hold, the E of it is 0." */
    private static void dividedByNothing() {
        Cork c = with("*961c", "d3(1/0=0|1=1);d2(1=1)");
        tried(c, "po", 0, 2);
        c.law("d3(1=1|1/0=0);d2(1=1)");
        tried(c, "po", 0, 3);
        c.law("d3(!1/0=0);d2(1=1)");
        tried(c, "po", 0, 2);
        c.law("d3(1=2&1/0=0|1=1);d2(1=1)");
        tried(c, "po", 0, 3);
        c.law("d9+1/0(1=1);d2(1=1)");
        tried(c, "po", 0, 0);
        c.law("d9+1%0(1=1);d2(1=1)");
        tried(c, "po", 0, 0);
        c.law("d9+0/1(1=1)");
        tried(c, "po", 0, 9);
        c.law("d9+0%1(1=1)");
        tried(c, "po", 0, 9);
        c.law("x(1/0=0);x(1=1)");
        tried(c, "p", 5, 0);
        c.law("x(1/0=0)");
        tried(c, "p", 5, 1);
        c.law("g5%0(1=1)");
        tried(c, "p", 5, 1);
    }

    /** "PARTS with a | .., one of which must hold; a PART: TESTS with an & .., all of which must"; the bounds of < > =. */
    private static void conditions() {
        String[] hold = {"1=1", "!1=2", "!!1=1", "(1=1)", "!(1=2)", "1<2", "2>1", "!2<2", "!2>2", "1=1&2=2", "!(1=1&1=2)",
            "1=2|1=1", "1=1|1=2", "1=2|1=2|1=1", "1=1|1=2|1=2", "1=2|1=1|1=2",
            "1=1|1/0=0|1=2", "1=1|1=2&1/0=0|1/0=0", "1=1|1=2&1=2|1=2", "1=2&1/0=0|1=1|1/0=0",
            "1=1&(1=2|1=1)", "1=2&1=1|1=1", "1=1|1=2&1=2", "!1=2&!1=2", "!1=1|1=1",
            "7/1=7", "7%1=0", "7/7=1", "6/7=0", "7%7=0", "6%7=6", "[0-7]/[0-1]=7", "[0-7]%[0-1]=0", "0/7=0", "0%7=0",
            "2-1-1=0", "9-2*3=3", "9/2*2=8", "9%5*2=8", "2*9/4=4", "[9-2]*3=21", "0-1<0", "0>0-1", "99999=99998+1", "00000=0"};
        String[] fail = {"1=2", "!1=1", "!!1=2", "(1=2)", "!(1=1)", "2<2", "2>2", "2<1", "1>2", "1=1&1=2", "1=2&1=1",
            "1=2|1=2", "1=1&1=1&1=2", "1=1&(1=2|1=2)", "1=1&1=2|1=2", "1=2|1=1&1=2", "!1=1&1=1", "!(1=1|1=2)", "!1=2&1=2",
            "7/1=0", "7%1=1", "1/0=0", "1%0=0", "1=1&1/0=0", "1=2|1/0=0", "!(1/0=0)", "1=2|1%0=0|1=1"};
        for (String condition : hold) {
            Cork c = with("*961c", "d1(1=1)");
            c.law("d2(" + condition + ");d1(1=1)");
            Cork.due(condition + " holds", c.tried(0, "po", 0), 2);
            c.law("x(" + condition + ");x(1=2)");
            Cork.due("x " + condition + " holds", c.tried(0, "p", 3), 7);
        }
        for (String condition : fail) {
            Cork c = with("*961c", "d1(1=1)");
            c.law("d2(" + condition + ");d1(1=1)");
            Cork.due(condition + " does not hold", c.tried(0, "po", 0), 1);
            c.law("x(" + condition + ");x(1=2)");
            Cork.due("x " + condition + " does not hold", c.tried(0, "p", 3), 9);
        }
    }

    /** "At most 240 bytes": as many TESTS, TERMS, FACTORS as go into them are all asked. */
    private static void longest() {
        Cork c = with("*961c", "d1(1=1)");
        longCondition(c, "1=1&", "1=1", true);
        longCondition(c, "1=1&", "1=2", false);
        longCondition(c, "1=2|", "1=1", true);
        longCondition(c, "1=2|", "1=2", false);
        longCondition(c, "k=1&n=9|", "k=0", true);
        longCondition(c, "k=0&n=8|", "k=1", false);
        longSum(c, "1", "+1-1", "+1", 2);
        longSum(c, "9", "-1+1", "-8", 1);
        longSum(c, "3", "*2/2", "*2", 6);
        longSum(c, "7", "*1", "%4", 3);
        longSum(c, "1", "+[2-2]", "+4", 5);
        longSum(c, "1+2*[1", "+1-1", "+3]", 9);
        longSum(c, "[[[[[[1", "+1-1", "+3]]]]]]", 4);
    }

    private static void longCondition(Cork c, String round, String end, boolean holds) {
        StringBuilder text = new StringBuilder("x(");
        while (text.length() + round.length() + end.length() < 240) {
            text.append(round);
        }
        text.append(end).append(")");
        Cork.due("law " + text, c.law(text.toString()), 1);
        Cork.due(round + " .. " + end, c.tried(0, "p", 5), holds ? 0 : 1);
    }

    private static void longSum(Cork c, String start, String round, String end, int due) {
        StringBuilder text = new StringBuilder("d").append(start);
        while (text.length() + round.length() + end.length() + 5 <= 240) {
            text.append(round);
        }
        text.append(end).append("(1=1)");
        Cork.due("law " + text, c.law(text.toString()), 1);
        Cork.due(start + " .. " + round + " .. " + end, c.tried(0, "po", 0), due);
    }

    /** "t: is he not OPEN and SCREW above 0, TURNS are one more (9 at most) ..; with TURNS above 5 then CORK is one less." */
    private static void turns() {
        Cork c = with("61c", "");
        int[] corkDue = {9, 9, 9, 9, 9, 8, 7, 6, 5};
        for (int many = 2; many <= 9; many++) {
            tried(c, many + "t", 4, many);
            tried(c, many + "t", 3, corkDue[many - 1]);
            tried(c, many + "t", 7, 99 - many);
        }
        tried(c, "9tt", 4, 9);
        tried(c, "9tt", 3, 4);
        tried(c, "9tt", 7, 89);
        tried(c, "9t4t", 3, 1);
        tried(c, "9t4t", 1, -2);
        tried(c, "9t5t", 3, 0);
        tried(c, "9t5t", 1, 13);
        tried(c, "9t5t", 4, 9);
        tried(c, "9t5t", 7, 85);
        tried(c, "9t6t", 7, 85);
        c.x.screw(1);
        tried(c, "t", 4, 1);
        tried(c, "t", 7, 0);
        tried(c, "2t", 4, 1);
        tried(c, "2t", 7, 0);
        c.draw(0, "3t");
        Cork.due("TURNS by a SCREW of 1", c.x.witnessIs(0, 4), 1);
        Cork.due("SCREW then", c.x.count(4), 0);
        tried(c, "9t", 3, 9);
        c.x.screw(0);
        tried(c, "t", 4, 1);
        c.x.screw(99);
        tried(c, "t", 7, 98);
        tried(c, "pt", 4, 0);
        tried(c, "pt", 7, 99);
    }

    /** "p: is he not OPEN: with TURNS no fewer than g .., and if x does not hold, he is OPEN, TURNS are 0; else CORK is 2 less." */
    private static void pulls() {
        Cork c = with("61c", "g3(1=1)");
        tried(c, "2tp", 5, 0);
        tried(c, "2tp", 3, 7);
        tried(c, "2tp", 4, 2);
        tried(c, "3tp", 5, 1);
        tried(c, "3tp", 3, 9);
        tried(c, "3tp", 4, 0);
        tried(c, "4tp", 5, 1);
        tried(c, "3tpp", 3, 9);
        tried(c, "4p", 3, 1);
        tried(c, "4p", 1, -2);
        tried(c, "5p", 3, 0);
        tried(c, "5p", 1, 4);
        c.law("g9(u<9);x(1=1)");
        tried(c, "7t3p", 3, 1);
        tried(c, "8t2p", 3, 2);
        tried(c, "8t2p", 1, -2);
        tried(c, "8t3p", 3, 0);
        tried(c, "8t3p", 1, 10);
        tried(c, "9tp", 3, 3);
        tried(c, "9tp", 5, 0);
        c.law("x(w=2)");
        // the first DRAW from 1 is 39022: w 2; the second 61087: w 7
        tried(c, "p", 5, 0);
        tried(c, "pp", 5, 1);
        c.law("g9*[7-w](1=1)");
        tried(c, "p", 5, 0);
        tried(c, "pp", 5, 1);
    }

    /** "s: FIZZ is f more (19 at most); is he not OPEN and FIZZ 19, he is OPEN (it goes off), TURNS are 0, one LAYER comes." */
    private static void shakes() {
        Cork c = with("61c60a", "f6(1=1);d0(1=1);a1(1=1)");
        tried(c, "3s", 2, 18);
        tried(c, "3s", 5, 0);
        tried(c, "3s", 0, 0);
        tried(c, "2t4s", 2, 19);
        tried(c, "2t4s", 5, 1);
        tried(c, "2t4s", 4, 0);
        tried(c, "2t4s", 0, 1);
        tried(c, "2t3s", 4, 2);
        tried(c, "5s", 0, 1);
        tried(c, "p4s", 0, 0);
        tried(c, "p4s", 2, 19);
        tried(c, "p4scs", 0, 1);
        tried(c, "4scs", 0, 2);
        tried(c, "4s2(cs)", 0, 2);
        tried(c, "4s2(cs)", 5, 1);
        tried(c, "4s2(cs)", 6, 60);
        tried(c, "4scbs", 0, 2);
        c.law("f1(1=1)");
        tried(c, "9s9s", 2, 18);
        tried(c, "9s9s", 5, 0);
        tried(c, "9s9ss", 2, 19);
        tried(c, "9s9ss", 0, 1);
        c.draw(0, "9s9ssc");
        c.law("f0(1=1)");
        Cork.due("FIZZ 19 when corked", c.x.witnessIs(0, 2), 19);
        tried(c, "s", 0, 1);
    }

    /** "b: FIZZ is a less (0 at least)." */
    private static void breaths() {
        Cork c = with("61c", "f5(1=1);a5(1=1)");
        tried(c, "sb", 2, 0);
        tried(c, "b", 2, 0);
        tried(c, "ssb", 2, 5);
        c.law("f5(1=1);a4(1=1)");
        tried(c, "sb", 2, 1);
        tried(c, "sbb", 2, 0);
        c.law("f5(1=1);a6(1=1)");
        tried(c, "sb", 2, 0);
        tried(c, "psb", 2, 0);
        tried(c, "pssb", 2, 4);
        c.law("f5(1=1);az(1=1)");
        tried(c, "2sb", 2, 0);
        c.law("f5(1=1);ai(1=1)");
        tried(c, "2sb", 2, 8);
        // the third DRAW from 1 is 20196: w 6
        c.law("f5(1=1);aw(1=1)");
        tried(c, "2sb", 2, 4);
    }

    /** "o: is he OPEN: d LAYERS come (as many as are left), FIZZ is one less for each (0 at least)." */
    private static void pours() {
        Cork c = with("*561c60a", "d5(1=1);f8(1=1);g0(1=1)");
        tried(c, "o", 0, 0);
        tried(c, "po", 0, 5);
        tried(c, "po", 6, 61);
        tried(c, "poo", 0, 6);
        tried(c, "poo", 6, 60);
        tried(c, "pooo", 0, 6);
        tried(c, "spo", 2, 3);
        tried(c, "spoo", 2, 2);
        tried(c, "spooo", 2, 2);
        tried(c, "po", 2, 0);
        c.law("d6(1=1);f5(1=1)");
        tried(c, "po", 0, 6);
        tried(c, "spo", 2, 0);
        c.law("d7(1=1)");
        tried(c, "po", 0, 6);
        tried(c, "poc", 0, 6);
        c.draw(0, "po");
        Cork.due("all OUT", c.x.witnessIs(0, 1), 6);
        Cork.due("none left", c.x.count(8), 0);
        Cork.due("an empty one pours none", c.draw(0, "9o"), 0);
        tried(c, "9o", 6, -2);
        Cork full = with("*8(61c60a59b)", "d9(1=1)");
        Cork.due("24 LAYERS", full.draw(0, "p3o"), 24);
        Cork.due("the 24th is OUT", full.x.layerIs(0, 23, 2), 1);
    }

    /** "c: he is not OPEN, CORK is 9, TURNS are 0." */
    private static void corks() {
        Cork c = with("61c", "g9(u>0);f9(1=1)");
        tried(c, "sc", 2, 9);
        tried(c, "pc", 5, 0);
        tried(c, "c", 3, 9);
        tried(c, "9t4tc", 3, 9);
        tried(c, "9t4tc", 4, 0);
        tried(c, "t4pc", 3, 9);
        tried(c, "t5pc", 3, 0);
        tried(c, "t5pc", 4, 1);
    }

    /** "Whenever CORK comes to 0 (or less), he is BROKEN: CORK is 0, all DEEDS behind are left out." */
    private static void broken() {
        Cork c = with("61c60a", "g9(u>0);f9(1=1);d1(1=1)");
        Cork.due("draw", c.draw(0, "st5p2scpo"), 0);
        int[] due = {2, 0, 9, 0, 1, 0, 1, 60, 61, 5};
        for (int what = 0; what < due.length; what++) {
            Cork.due("BROKEN: what " + what, c.x.witnessIs(0, what), due[what]);
        }
        int drawn = c.x.count(7);
        int x = 1;
        for (int i = 0; i < 7; i++) {
            x = (25173 * x + 13849) % 65536;
        }
        Cork.due("seven DRAWS", drawn, x);
        Cork.due("a DRAWING on a BROKEN one", c.draw(0, "c2t9s"), 0);
        for (int what = 0; what < due.length; what++) {
            Cork.due("BROKEN still: what " + what, c.x.witnessIs(0, what), due[what]);
        }
        Cork.due("no DRAW", c.x.count(7), drawn);
        Cork.due("no SCREW", c.x.count(4), 98);
        Cork.due("BROKEN bits", c.x.count(2), 1);
        Cork.due("LAYERS are left", c.x.count(8), 2);
    }

    /** "X = (25173 X + 13849) modulo 65536 (X is THE SEED at first, 1): X modulo 10." */
    private static void draws() {
        for (int due = 0; due < 65536; due += 65535) {
            int seed = 0;
            while ((25173L * seed + 13849) % 65536 != due) {
                seed++;
            }
            Cork c = with("61c", "fw(1=1)");
            Cork.due("seed", c.x.seed(seed), true);
            tried(c, "s", 2, due % 10);
            c.draw(0, "s");
            Cork.due("X", c.x.count(7), due);
        }
        boolean[] seen = new boolean[10];
        for (int seed = 0; seed < 100; seed++) {
            Cork c = with("61c", "fw(1=1)");
            c.x.seed(seed);
            int w = (int) ((25173L * seed + 13849) % 65536 % 10);
            tried(c, "s", 2, w);
            seen[w] = true;
        }
        for (int w = 0; w < 10; w++) {
            Cork.due("w " + w + " was seen", seen[w], true);
        }
        Cork c = with("61c", "g9(1=1)");
        c.draw(0, "tpsboc");
        long x = 1;
        for (int i = 0; i < 6; i++) {
            x = (25173 * x + 13849) % 65536;
        }
        Cork.due("each DEED has a DRAW", c.x.count(7), x);
    }

    /** "9999 at most": no 512 calls go so far, so this one goes on behind them, where answers are free. */
    private static void confessed() {
        Cork c = with("*9(*261c)*660a", "d9(1=1)");
        for (int round = 1; round <= 418; round++) {
            c.witness(0, "*9(*261c)*660a");
            Cork.due("24 came", c.draw(0, "p3o"), 24);
            Cork.due("CONFESSED, round " + round, c.x.count(0), Math.min(9999, 24 * round));
        }
        Cork.due("keep", c.x.keep(), 9999);
    }

    /** "1 the DEED at which he is BROKEN (0 on; -2: he is not, -3: he was ahead) .., 6 .. (-2: none)". */
    private static void triedAnswers() {
        Cork c = with("61c60a", "g9(c>2);x(1=1);f19(1=1);d1(1=1)");
        tried(c, "4p", 1, -2);
        tried(c, "5p", 1, 4);
        tried(c, "9p", 1, 4);
        c.draw(0, "4p");
        tried(c, "p", 1, 0);
        tried(c, "b", 1, -2);
        tried(c, "b", 6, -2);
        tried(c, "s", 6, 61);
        tried(c, "so", 6, 60);
        c.draw(0, "so");
        tried(c, "o", 6, -2);
        tried(c, "cs", 0, 0);
        c.draw(0, "c9p");
        tried(c, "b", 1, -3);
        tried(c, "cso", 0, 0);
        tried(c, "cso", 6, -2);
        tried(c, "t", 7, 99);
    }

    /** "The fewest DEEDS (20 at most)"; "-3: not by 20". */
    private static void planTwenty() {
        Cork c = with("*901a*902b03c04d05e", "d1(1=1)");
        c.draw(0, "p");
        Cork.due("19 pours", c.x.plan(0, 3, 0), 19);
        Cork.due("20 pours", c.x.plan(0, 4, 0), 20);
        Cork.due("20 pours, the first", c.x.plan(0, 4, 1), 4);
        Cork.due("21 pours", c.x.plan(0, 5, 0), -3);
        Cork.due("21 pours, the first", c.x.plan(0, 5, 1), -3);
        c.draw(0, "o");
        Cork.due("20 pours then", c.x.plan(0, 5, 0), 20);
        Cork one = with("61c", "f1(1=1);g9(1=1)");
        Cork.due("19 shakes", one.x.plan(0, 61, 0), 19);
        one.law("f1(z<18);g9(1=1)");
        Cork.due("no way to 19", one.x.plan(0, 61, 0), -3);
        Cork none = with("61c", "d1(1=1)");
        none.draw(0, "p");
        Cork.due("one DEED", none.x.plan(0, 61, 0), 1);
        Cork.due("one DEED, the first", none.x.plan(0, 61, 1), 4);
        none.draw(0, "o");
        Cork.due("it is OUT", none.x.plan(0, 61, 0), -2);
    }

    /** The last LAYERS of a full WITNESS, FIZZ up to 19, a way that is found after many others were looked through. */
    private static void planFar() {
        Cork full = with("*901a*902b*403c04d05e", "d1(1=1)");
        full.draw(0, "p9o9o3o");
        Cork.due("OUT 21", full.x.witnessIs(0, 1), 21);
        Cork.due("the 22nd", full.x.plan(0, 3, 0), 1);
        Cork.due("the 23rd", full.x.plan(0, 4, 0), 2);
        Cork.due("the 24th", full.x.plan(0, 5, 0), 3);
        full.draw(0, "o");
        full.draw(0, "o");
        Cork.due("OUT 23", full.x.witnessIs(0, 1), 23);
        Cork.due("the 24th is next", full.x.plan(0, 5, 0), 1);
        Cork.due("the 24th is next, the first", full.x.plan(0, 5, 1), 4);
        full.law("d1(z<19);f19(1=1);a1(1=1)");
        full.draw(0, "s");
        Cork.due("OUT 23, FIZZ 19", full.x.witnessIs(0, 2), 19);
        Cork.due("OUT 23, FIZZ 19: a breath, a pour", full.x.plan(0, 5, 0), 2);
        Cork.due("OUT 23, FIZZ 19: a breath, the first", full.x.plan(0, 5, 1), 3);
        full.draw(0, "bo");
        Cork.due("none left", full.x.plan(0, 5, 0), -2);
        Cork nine = with("*901a*902b*303c*304d", "d9(1=1)");
        Cork.due("three pours for the 24th", nine.x.plan(0, 4, 0), 4);
        Cork fizz = with("61c60a", "g9(1=1);f19(1=1);a1(1=1)");
        Cork.due("FIZZ 19 twice", fizz.x.plan(0, 60, 0), 3);
        fizz.law("f18(z=0);f1(z=18);g9(1=1)");
        Cork.due("FIZZ 18, then 19", fizz.x.plan(0, 61, 0), 2);
        Cork.due("FIZZ 18, 19, corked, 19", fizz.x.plan(0, 60, 0), 4);
        Cork far = with("61c", "g9(1=1);d1(1=1);f1(1=1);a1(1=1)");
        Cork.due("nine turns, a pull, a pour", far.x.plan(0, 61, 0), 11);
        Cork.due("nine turns: the first", far.x.plan(0, 61, 1), 0);
        far.law("g9(1=1);d1(z=10);f1(1=1);a1(1=1)");
        Cork.due("nineteen shakes", far.x.plan(0, 61, 0), 19);
        Cork.due("nineteen shakes: the first", far.x.plan(0, 61, 1), 2);
    }

    /** "He not BROKEN on the way, the SCREW not asked nor worn, with w 0, i 0". */
    private static void planBroken() {
        Cork c = with("61c", "x(c>1);d1(1=1)");
        Cork.due("CORK 1 by four pulls", c.x.plan(0, 61, 0), 6);
        c.law("x(c>0);d1(1=1)");
        Cork.due("it would be BROKEN", c.x.plan(0, 61, 0), -3);
        c.law("g9(c>1);d1(1=1)");
        Cork.due("g by CORK", c.x.plan(0, 61, 0), 6);
        c.x.screw(0);
        c.law("g1(1=1);d1(1=1)");
        Cork.due("the SCREW is not asked", c.x.plan(0, 61, 0), 3);
        Cork.due("the SCREW is not asked, the first", c.x.plan(0, 61, 1), 0);
        Cork.due("nor worn", c.x.count(4), 0);
        c.law("g9(w>0|i>0);d1(w=0&i=0)");
        Cork.due("w 0, i 0", c.x.plan(0, 61, 0), 2);
        c.law("x(1=1)");
        c.draw(0, "5p");
        Cork.due("he is BROKEN", c.x.plan(0, 61, 0), -2);
        Cork.due("he is BROKEN, the first", c.x.plan(0, 61, 1), -2);
    }

    /** "A YEAR (0 to 99)"; "-2: none of that YEAR is left". */
    private static void planNeither() {
        Cork c = with("00a99p", "d1(1=1)");
        Cork.due("the YEAR 0", c.x.plan(0, 0, 0), 2);
        Cork.due("the YEAR 99", c.x.plan(0, 99, 0), 3);
        Cork.due("the YEAR -1", c.x.plan(0, -1, 0), -1);
        Cork.due("the YEAR 100", c.x.plan(0, 100, 0), -1);
        Cork.due("the YEAR 1", c.x.plan(0, 1, 0), -2);
        Cork.due("the YEAR 98", c.x.plan(0, 98, 1), -2);
        c.witness(11, "61c");
        Cork.due("WITNESS 11", c.x.plan(11, 61, 0), 2);
        c.draw(0, "po");
        Cork.due("the YEAR 0 is OUT", c.x.plan(0, 0, 0), -2);
        Cork.due("the YEAR 99 is next", c.x.plan(0, 99, 0), 1);
    }
}
