/** Promises 6 draw, 7 tried. */
public final class DrawTest {
    private static final String LAW = "g3(1=1);f10(1=1);a4(1=1);d1(1=1)";

    public static void main(String[] args) {
        faults();
        refused();
        turns();
        pulls();
        shakes();
        breathsAndPours();
        corks();
        drawsAndState();
        triedChangesNothing();
        brokenOnes();
        Cork.finish("DrawTest");
    }

    private static Cork ready() {
        Cork c = new Cork();
        c.witness(0, "61c60a60b59d");
        c.law(LAW);
        return c;
    }

    private static void reads(String text, int due) {
        Cork c = new Cork();
        c.witness(0, "61c");
        Cork.due("tried " + text, c.tried(0, text, 0), due);
        Cork.due("tape after " + text, c.x.count(6), 0);
        Cork.due("draw " + text, c.draw(0, text), due);
        Cork.due("tape after draw " + text, c.x.count(6), 0);
        if (due < 0) {
            Cork.due("X after a FAULT", c.x.count(7), 1);
        }
    }

    private static void faults() {
        reads("t", 0);
        reads("tpsboc", 0);
        reads("2(3t4(2pc)b)", 0);
        reads("q", -1000);
        reads("T", -1000);
        reads(")", -1000);
        reads("0t", -1000);
        reads("1t", -1000);
        reads("2", -1001);
        reads("22t", -1001);
        reads("2)", -1001);
        reads("()", -1001);
        reads("(", -1001);
        reads("(t", -1002);
        reads("t)", -1001);
        reads("t t", -1001);
        reads("tt*", -1002);
        reads("((t))", 0);
        reads("(((t)))", -5002);
        reads("2(3(4(t", -5005);
        reads("t((t)(", -1006);
        reads("t((t(", -5004);
        reads("9(9t)9t6t", 0);
        reads("9(9t)9t7t", -6007);
        reads("9(9t)9t6tt", -6009);
        reads("9(9t)9t6t(t)", -6010);
        reads("9(9t)9t2(4t)", -6007);
        reads("9(9t)9t2(4t", -1011);
        reads("8(3(4t))", 0);
        reads("8(3(4t)t)", -6000);
        reads("(9(9t)9(9t))", -6006);
        reads("(9(9(2t)))", -5004);
        reads("9(9(2t))x", -6000);
    }

    private static void refused() {
        Cork c = ready();
        c.feed("t");
        Cork.due("draw k -1", c.x.draw(-1, 1), -1);
        Cork.due("draw k 12", c.x.draw(12, 1), -1);
        Cork.due("draw not told", c.x.draw(1, 1), -1);
        Cork.due("draw n 0", c.x.draw(0, 0), -1);
        Cork.due("draw n 21", c.x.draw(0, 21), -1);
        Cork.due("tried not told", c.x.tried(1, 1, 0), -1);
        Cork.due("tried n 0", c.x.tried(0, 0, 0), -1);
        Cork.due("tried n 21", c.x.tried(0, 21, 0), -1);
        Cork.due("tried what 8", c.x.tried(0, 1, 8), -1);
        Cork.due("tried what -1", c.x.tried(0, 1, -1), -1);
        c.feed("x".repeat(60));
        Cork.due("draw n 61", c.x.draw(0, 61), -1);
        Cork.due("tried n 61", c.x.tried(0, 61, 0), -1);
        Cork.due("the tape stays", c.x.count(6), 80);
        Cork.due("X stays", c.x.count(7), 1);
        Cork.due("draw n 1", c.x.draw(0, 1), 0);
        Cork.due("60 bytes", c.draw(0, "b".repeat(60)), 0);
    }

    private static void turns() {
        Cork c = ready();
        Cork.due("TURNS", c.tried(0, "4t", 4), 4);
        Cork.due("SCREW", c.tried(0, "4t", 7), 95);
        Cork.due("CORK by five", c.tried(0, "5t", 3), 9);
        Cork.due("CORK by six", c.tried(0, "6t", 3), 8);
        Cork.due("TURNS nine at most", c.tried(0, "9tt", 4), 9);
        Cork.due("a tenth wears the CORK, too", c.tried(0, "9tt", 3), 4);
        Cork.due("and the SCREW", c.tried(0, "9tt", 7), 89);
        Cork.due("BROKEN by turns", c.tried(0, "9t9t", 1), 13);
        Cork.due("SCREW then", c.tried(0, "9t9t", 7), 85);
        Cork.due("an OPEN one is not turned", c.tried(0, "3tp5t", 4), 0);
        Cork.due("nor is the SCREW", c.tried(0, "3tp5t", 7), 96);
        c.x.screw(2);
        Cork.due("the SCREW ends", c.tried(0, "9t", 4), 2);
        Cork.due("and stays at 0", c.tried(0, "9t", 7), 0);
        Cork.due("and wears no CORK", c.tried(0, "9t", 3), 9);
    }

    private static void pulls() {
        Cork c = ready();
        Cork.due("OPEN", c.tried(0, "3tp", 5), 1);
        Cork.due("TURNS 0 then", c.tried(0, "3tp", 4), 0);
        Cork.due("TURNS too few", c.tried(0, "2tp", 5), 0);
        Cork.due("CORK 2 less", c.tried(0, "2tp", 3), 7);
        Cork.due("TURNS stay", c.tried(0, "2tp", 4), 2);
        Cork.due("BROKEN by pulls", c.tried(0, "5p", 1), 4);
        Cork.due("CORK 0 then", c.tried(0, "5p", 3), 0);
        Cork.due("four do not", c.tried(0, "4p", 1), -2);
        Cork.due("an OPEN one is not pulled", c.tried(0, "3tp9p", 3), 9);
        c.law("g0(1=1);x(c=9)");
        Cork.due("x holds: not OPEN", c.tried(0, "p", 5), 0);
        Cork.due("then not", c.tried(0, "pp", 5), 1);
        Cork.due("CORK stays less", c.tried(0, "pp", 3), 7);
        c = new Cork();
        c.witness(0, "61c");
        Cork.due("no LAW: OPEN at once", c.tried(0, "p", 5), 1);
    }

    private static void shakes() {
        Cork c = ready();
        Cork.due("FIZZ", c.tried(0, "s", 2), 10);
        Cork.due("it goes off", c.tried(0, "2s", 5), 1);
        Cork.due("one LAYER comes", c.tried(0, "2s", 0), 1);
        Cork.due("its YEAR", c.tried(0, "2s", 6), 61);
        Cork.due("FIZZ stays 19", c.tried(0, "2s", 2), 19);
        Cork.due("TURNS are 0", c.tried(0, "4t2s", 4), 0);
        Cork.due("OPEN it does not go off", c.tried(0, "9s", 0), 1);
        Cork.due("corked it does", c.tried(0, "2scs", 0), 2);
        Cork.due("with no f, too", c.tried(0, "2s3(cs)", 0), 4);
        Cork.due("none left: none comes", c.tried(0, "2s9(cs)", 0), 4);
        Cork.due("none left: OPEN all the same", c.tried(0, "2s9(cs)", 5), 1);
        c.draw(0, "2sc");
        c.law("g9(1=1)");
        Cork.due("at 19 a shake by 0 does it", c.tried(0, "s", 0), 1);
    }

    private static void breathsAndPours() {
        Cork c = ready();
        Cork.due("a breath", c.tried(0, "sb", 2), 6);
        Cork.due("0 at least", c.tried(0, "s3b", 2), 0);
        Cork.due("one LAYER by a pour", c.tried(0, "3tpo", 0), 1);
        Cork.due("no LAYER when not OPEN", c.tried(0, "9o", 0), 0);
        Cork.due("as many as are left", c.tried(0, "3tp9o", 0), 4);
        Cork.due("the last YEAR", c.tried(0, "3tp9o", 6), 59);
        Cork.due("FIZZ one less for each", c.tried(0, "2s2o", 2), 17);
        Cork.due("FIZZ not less for none", c.tried(0, "2s9o", 2), 16);
        Cork.due("FIZZ 0 at least", c.tried(0, "3tp2o", 2), 0);
        c.law("d3(1=1)");
        Cork.due("three at once", c.tried(0, "po", 0), 3);
        Cork.due("and the rest", c.tried(0, "poo", 0), 4);
        Cork.due("none came: -2", c.tried(0, "p", 6), -2);
    }

    private static void corks() {
        Cork c = ready();
        Cork.due("not OPEN", c.tried(0, "3tpc", 5), 0);
        Cork.due("CORK 9", c.tried(0, "8tc", 3), 9);
        Cork.due("TURNS 0", c.tried(0, "4tc", 4), 0);
        Cork.due("FIZZ stays", c.tried(0, "sc", 2), 10);
        Cork.due("what came is gone", c.tried(0, "3tpoc3tpo", 0), 2);
    }

    private static void drawsAndState() {
        Cork c = ready();
        Cork.due("draw", c.draw(0, "3tpo"), 1);
        Cork.due("X after five DEEDS", c.x.count(7), 3882);
        Cork.due("SCREW", c.x.count(4), 96);
        Cork.due("CONFESSED", c.x.count(0), 1);
        Cork.due("OUT", c.x.witnessIs(0, 1), 1);
        Cork.due("OPEN", c.x.witnessIs(0, 5), 1);
        Cork.due("draw on", c.draw(0, "9o"), 3);
        Cork.due("CONFESSED then", c.x.count(0), 4);
        Cork.due("draw the empty one", c.draw(0, "9o"), 0);
        Cork.due("told anew", c.witness(0, "61c"), 1);
        Cork.due("CONFESSED stays", c.x.count(0), 4);
    }

    private static void triedChangesNothing() {
        Cork c = ready();
        c.draw(0, "2tsp");
        int[] before = new int[19];
        for (int i = 0; i < before.length; i++) {
            before[i] = i < 9 ? c.x.count(i) : c.x.witnessIs(0, i - 9);
        }
        for (int what = 0; what < 8; what++) {
            c.tried(0, "2s3oc9p", what);
        }
        for (int i = 0; i < before.length; i++) {
            Cork.due("unchanged " + i, i < 9 ? c.x.count(i) : c.x.witnessIs(0, i - 9), before[i]);
        }
        c.law("fw(1=1)");
        int will = c.tried(0, "s", 2);
        c.draw(0, "s");
        Cork.due("by the DRAWS that will come", c.x.witnessIs(0, 2), will);
    }

    private static void brokenOnes() {
        Cork c = ready();
        Cork.due("draw", c.draw(0, "t9p3s"), 0);
        Cork.due("BROKEN", c.x.witnessIs(0, 6), 1);
        Cork.due("DEEDS behind are left out", c.x.witnessIs(0, 2), 0);
        // Six DEEDS were done: 39022, 61087, 20196, 45005, 3882, 21259
        Cork.due("and take no DRAW", c.x.count(7), 21259);
        Cork.due("draw a BROKEN one", c.draw(0, "tpso"), 0);
        Cork.due("X stays", c.x.count(7), 21259);
        Cork.due("SCREW stays", c.x.count(4), 98);
        Cork.due("he was ahead", c.tried(0, "c", 1), -3);
        Cork.due("CORK 0", c.tried(0, "c", 3), 0);
        Cork.due("TURNS stay", c.tried(0, "c", 4), 1);
        Cork.due("a FAULT all the same", c.tried(0, "x", 1), -1000);
        Cork.due("told anew", c.witness(0, "61c"), 1);
        Cork.due("not BROKEN", c.x.count(2), 0);
    }
}
