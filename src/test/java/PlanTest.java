/** Promise 10 plan. */
public final class PlanTest {
    public static void main(String[] args) {
        plans();
        edges();
        farDown();
        screwIsNotAsked();
        wrongOnes();
        againstAllRows();
        Cork.finish("PlanTest");
    }

    private static Cork with(String witness, String law) {
        Cork c = new Cork();
        c.witness(4, witness);
        if (!law.isEmpty()) {
            c.law(law);
        }
        return c;
    }

    private static void plan(Cork c, String name, int year, int many, int first) {
        Cork.due(name + " DEEDS", c.x.plan(4, year, 0), many);
        Cork.due(name + " first", c.x.plan(4, year, 1), first);
    }

    private static void plans() {
        plan(with("61c", "d1(1=1)"), "pull, pour", 61, 2, 1);
        plan(with("61c60a59b", "d1(1=1)"), "pull, three pours", 59, 4, 1);
        plan(with("61c60a59b", "d3(1=1)"), "pull, pour three", 59, 2, 1);
        plan(with("61c", "f19(1=1)"), "a shake", 61, 1, 2);
        plan(with("61c", "f19(1=1);d1(1=1)"), "a shake is less than pull and pour", 61, 1, 2);
        plan(with("61c60a", "f19(1=1);d1(1=1)"), "pull, pour, pour is more than shake, pour", 60, 2, 2);
        plan(with("61c61c", "f10(1=1);d1(1=1)"), "the next of like ones", 61, 2, 1);
        plan(with("61c", "g3(1=1);d1(1=1)"), "three turns, pull, pour", 61, 5, 0);
        plan(with("61c", "g3(1=1);d1(1=1);f7(1=1)"), "three shakes", 61, 3, 2);
        plan(with("61c", "g9(1=1);f1(1=1)"), "nineteen shakes", 61, 19, 2);
        plan(with("61c", "g1(1=1);d1(1=1);f7(1=1)"), "turn, pull, pour is less than three shakes", 61, 3, 0);
        plan(with("61c60a", "f19(1=1)"), "shake, cork, shake", 60, 3, 2);
        plan(with("61c60a", "f10(1=1)"), "shake, shake, cork, shake", 60, 4, 2);
        plan(with("61c", "d1(1=1);x(c=9)"), "pull twice and pour", 61, 3, 1);
        plan(with("61c", "dk-3(1=1);g0(1=1)"), "by k", 61, 2, 1);
        plan(with("61c", "d1(w=0&i=0);x(w>0|i>0)"), "with w 0, i 0", 61, 2, 1);
        Cork c = with("61c60a59b", "g3(1=1);d1(1=1)");
        c.draw(4, "3tpo");
        plan(c, "from where he is", 59, 2, 4);
        c.draw(4, "c2t");
        plan(c, "TURNS go on", 60, 3, 0);
    }

    private static void edges() {
        plan(with("61c", "g9(1=1)"), "no way", 61, -3, -3);
        plan(with("61c", ""), "no LAW", 61, -3, -3);
        plan(with("61c60a", "f1(1=1)"), "twenty-one", 60, -3, -3);
        plan(with("61c60a", "g9(1=1);f1(n=2);d1(z>18)"), "twenty", 60, 20, 2);
        plan(with("61c", "g9(c=4);d1(1=1);g10(1=1)"), "ten turns wear the CORK to 4", 61, 11, 0);
        plan(with("61c", "g9(1=1);d1(u=0);x(1=1)"), "x always", 61, -3, -3);
        Cork c = with("61c60a", "g0(1=1);d1(1=1)");
        c.draw(4, "po");
        plan(c, "what came is gone", 61, -2, -2);
        plan(c, "none of that YEAR", 5, -2, -2);
        c.law("x(1=1)");
        c.draw(4, "c5p");
        plan(c, "BROKEN", 60, -2, -2);
        Cork breaking = with("61c", "x(c>1);d1(1=1)");
        plan(breaking, "pulls to CORK 1, then OPEN", 61, 6, 1);
        plan(with("61c", "x(c>2);d1(1=1)"), "CORK 1 by four pulls", 61, 6, 1);
        plan(with("61c", "g7(1=1);d1(c=7)"), "CORK 7 by seven turns", 61, 9, 0);
        plan(with("61c", "g1(c=5);d1(1=1);g10(c>0);x(u>1)"), "not BROKEN on the way", 61, 5, 0);
    }

    private static void farDown() {
        plan(with("00a", "d1(1=1)"), "the YEAR 0", 0, 2, 1);
        Cork c = with("*861a*960b*659c58d", "f19(1=1);d1(1=1)");
        c.draw(4, "s9o9o3oc");
        Cork.due("OUT", c.x.witnessIs(4, 1), 22);
        plan(c, "the 24th LAYER", 58, 2, 2);
        c.draw(4, "s");
        plan(c, "the 24th LAYER, OPEN with FIZZ 19", 58, 1, 4);
        c.draw(4, "c");
        c.law("g4(1=1);d1(1=1)");
        plan(c, "the 24th LAYER by one more shake", 58, 1, 2);
    }

    private static void screwIsNotAsked() {
        Cork c = with("61c", "g3(1=1);d1(1=1)");
        c.x.screw(0);
        plan(c, "SCREW 0", 61, 5, 0);
        Cork.due("SCREW not worn", c.x.count(4), 0);
        Cork.due("X stays", c.x.count(7), 1);
        Cork.due("OUT stays", c.x.witnessIs(4, 1), 0);
        Cork.due("CONFESSED stays", c.x.count(0), 0);
        Cork.due("TURNS stay", c.x.witnessIs(4, 4), 0);
    }

    private static void wrongOnes() {
        Cork c = with("61c", "d1(1=1)");
        Cork.due("not told", c.x.plan(3, 61, 0), -1);
        Cork.due("k -1", c.x.plan(-1, 61, 0), -1);
        Cork.due("k 12", c.x.plan(12, 61, 0), -1);
        Cork.due("year -1", c.x.plan(4, -1, 0), -1);
        Cork.due("year 100", c.x.plan(4, 100, 0), -1);
        Cork.due("what 2", c.x.plan(4, 61, 2), -1);
        Cork.due("what -1", c.x.plan(4, 61, -1), -1);
        Cork.due("year 99", c.x.plan(4, 99, 0), -2);
    }

    /** Every row of up to five DEEDS is tried; without w and i in THE LAW the first that serves is the PLAN. */
    private static void againstAllRows() {
        String[] laws = {"g2(1=1);d2(z<3);f6(u>0);a3(1=1);x(c=9)", "gs(1=1);dz/4(1=1);f5+y%2(1=1);a1(1=1)"};
        for (String law : laws) {
            for (int year = 59; year <= 61; year++) {
                Cork c = with("61c60a60b59d", law);
                int many = 0;
                int first = -3;
                for (int length = 1; length <= 5 && many == 0; length++) {
                    int rows = (int) Math.round(Math.pow(6, length));
                    for (int row = 0; row < rows && many == 0; row++) {
                        if (serves(c, row, length, year)) {
                            many = length;
                            first = row / (rows / 6);
                        }
                    }
                }
                if (many > 0) {
                    plan(c, law + " " + year, year, many, first);
                } else {
                    int got = c.x.plan(4, year, 0);
                    Cork.due(law + " " + year + " more than five", got == -3 || got > 5, true);
                }
            }
        }
    }

    private static boolean serves(Cork c, int row, int length, int year) {
        char[] text = new char[length];
        for (int i = length - 1; i >= 0; i--) {
            text[i] = "tpsboc".charAt(row % 6);
            row /= 6;
        }
        int came = c.tried(4, new String(text), 0);
        for (int i = 0; i < came; i++) {
            if (c.x.layerIs(4, i, 0) == year) {
                return true;
            }
        }
        return false;
    }
}
