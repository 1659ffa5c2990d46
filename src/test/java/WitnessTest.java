/** Promises 5 witness, 8 witnessIs, 9 layerIs. */
public final class WitnessTest {
    public static void main(String[] args) {
        told();
        faults();
        tooMany();
        refused();
        witnessIs();
        layerIs();
        Cork.finish("WitnessTest");
    }

    private static void tells(String text, int due) {
        Cork c = new Cork();
        Cork.due("witness " + text, c.witness(3, text), due);
        Cork.due("told after " + text, c.x.count(1), due > 0 ? 8 : 0);
        Cork.due("tape after " + text, c.x.count(6), 0);
    }

    private static void told() {
        tells("00a", 1);
        tells("99p", 1);
        tells("61c60a60b59d", 4);
        tells("*261c", 2);
        tells("*961c", 9);
        tells("(61c)", 1);
        tells("((61c)60a)", 2);
        tells("*2(61c*2(60a59b)58d)57e", 2 * (1 + 4 + 1) + 1);
        tells("*8(61c60a59b)", 24);
        tells("(61c)(61c)((61c))", 3);
        Cork c = new Cork();
        c.witness(0, "*2(61c*260a)59d");
        int[] years = {61, 60, 60, 61, 60, 60, 59};
        for (int i = 0; i < years.length; i++) {
            Cork.due("YEAR of LAYER " + i, c.x.layerIs(0, i, 0), years[i]);
        }
    }

    private static void faults() {
        tells("6", -1001);
        tells("61", -1002);
        tells("61q", -1002);
        tells("61A", -1002);
        tells("a", -1000);
        tells(")", -1000);
        tells("6(", -1001);
        tells("*", -1001);
        tells("*161c", -1001);
        tells("*061c", -1001);
        tells("*c", -1001);
        tells("*2", -1002);
        tells("*2*261c", -1002);
        tells("*2)", -1002);
        tells("261c", -1002);
        tells("61c ", -1003);
        tells("61c)", -1003);
        tells("(", -1001);
        tells("()", -1001);
        tells("(61c", -1004);
        tells("((61c)", -1006);
        tells("((61c)))", -1007);
        tells("(((61c)))", -5002);
        tells("61c*2(*3(*4(", -5011);
        tells("((61c)(60a))(((", -5014);
        tells("61(", -1002);
        tells("((61(", -1004);
    }

    private static void tooMany() {
        tells("*961c*960a*759b", -6010);
        tells("*961c*960a59b58c57d56e55f54g53h", -6028);
        tells("*9(61c60a59b)", -6000);
        tells("*9(61c60a59b", -1012);
        tells("*9(61c60a59b)x", -6000);
        tells("*961c*960a(*759b)", -6011);
        tells("*961c*960a*2(*459b)", -6010);
        tells("*2(*961c*960a*859b)", -6013);
        tells("*2(*3(*461c)*260a)", -6000);
        tells("(*3(*961c))", -6001);
        tells("*961c*960a*659b(58d)", -6016);
        Cork c = new Cork();
        c.witness(0, "*361c");
        Cork.due("a FAULT", c.witness(0, "60a("), -1004);
        Cork.due("leaves the one before", c.x.witnessIs(0, 0), 3);
    }

    private static void refused() {
        Cork c = new Cork();
        c.feed("61c");
        Cork.due("k -1", c.x.witness(-1, 3), -1);
        Cork.due("k 12", c.x.witness(12, 3), -1);
        Cork.due("n 0", c.x.witness(0, 0), -1);
        Cork.due("n -1", c.x.witness(0, -1), -1);
        Cork.due("n above the tape", c.x.witness(0, 21), -1);
        for (int i = 0; i < 4; i++) {
            c.feed("61c");
        }
        Cork.due("n 81", c.x.witness(0, 81), -1);
        Cork.due("the tape stays", c.x.count(6), 100);
        Cork.due("n 3", c.x.witness(11, 3), 1);
        Cork.due("the tape is empty", c.x.count(6), 0);
        StringBuilder all = new StringBuilder("((61c))");
        for (int i = 0; i < 8; i++) {
            all.append("((61c)60a)");
        }
        Cork.due("80 bytes at most", c.witness(1, all.substring(7)), 16);
        Cork.due("81 bytes", c.witness(1, "6" + all.substring(7)), -1);
    }

    private static void witnessIs() {
        Cork c = new Cork();
        c.law("g1(1=1);f7(1=1);d2(1=1)");
        c.witness(2, "61c99a05b40p");
        int[] fresh = {4, 0, 0, 9, 0, 0, 0, 5, 99, 0x8007};
        for (int what = 0; what < fresh.length; what++) {
            Cork.due("fresh witnessIs " + what, c.x.witnessIs(2, what), fresh[what]);
        }
        c.draw(2, "stpso");
        int[] drawn = {4, 2, 12, 9, 0, 1, 0, 5, 40, 0x8002};
        for (int what = 0; what < drawn.length; what++) {
            Cork.due("drawn witnessIs " + what, c.x.witnessIs(2, what), drawn[what]);
        }
        c.draw(2, "oct");
        int[] empty = {4, 4, 10, 9, 1, 0, 0, -2, -2, 0};
        for (int what = 0; what < empty.length; what++) {
            Cork.due("empty witnessIs " + what, c.x.witnessIs(2, what), empty[what]);
        }
        c.law("g9(1=1)");
        c.draw(2, "5p");
        Cork.due("BROKEN", c.x.witnessIs(2, 6), 1);
        Cork.due("CORK of a BROKEN one", c.x.witnessIs(2, 3), 0);
        Cork.due("what -1", c.x.witnessIs(2, -1), -1);
        Cork.due("what 10", c.x.witnessIs(2, 10), -1);
        Cork.due("not told", c.x.witnessIs(1, 0), -1);
        Cork.due("k 12", c.x.witnessIs(12, 0), -1);
        Cork.due("k -1", c.x.witnessIs(-1, 0), -1);
        c.witness(2, "61c");
        int[] anew = {1, 0, 0, 9, 0, 0, 0, 61, 61, 4};
        for (int what = 0; what < anew.length; what++) {
            Cork.due("told anew witnessIs " + what, c.x.witnessIs(2, what), anew[what]);
        }
    }

    private static void layerIs() {
        Cork c = new Cork();
        c.witness(2, "61c99a");
        c.law("d1(1=1)");
        c.draw(2, "po");
        Cork.due("YEAR 0", c.x.layerIs(2, 0, 0), 61);
        Cork.due("SIN 0", c.x.layerIs(2, 0, 1), 2);
        Cork.due("OUT 0", c.x.layerIs(2, 0, 2), 1);
        Cork.due("YEAR 1", c.x.layerIs(2, 1, 0), 99);
        Cork.due("SIN 1", c.x.layerIs(2, 1, 1), 0);
        Cork.due("OUT 1", c.x.layerIs(2, 1, 2), 0);
        Cork.due("i 2", c.x.layerIs(2, 2, 0), -1);
        Cork.due("i -1", c.x.layerIs(2, -1, 0), -1);
        Cork.due("what 3", c.x.layerIs(2, 0, 3), -1);
        Cork.due("what -1", c.x.layerIs(2, 0, -1), -1);
        Cork.due("not told", c.x.layerIs(0, 0, 0), -1);
        Cork.due("k 12", c.x.layerIs(12, 0, 0), -1);
        c.witness(2, "60b");
        Cork.due("told anew, i 1", c.x.layerIs(2, 1, 0), -1);
    }
}
