/** "A call that is refused (NONE, false) changes nothing but the tape, where it is told": promise by promise. */
public final class RefusedTest {
    private static final int LOW = Integer.MIN_VALUE;
    private static final int HIGH = Integer.MAX_VALUE;

    public static void main(String[] args) {
        screwSeedFeedUndo();
        law();
        witness();
        draw();
        tried();
        asked();
        plan();
        stories();
        jury();
        tasters();
        jugs();
        cellar();
        wear();
        check();
        Cork.finish("RefusedTest");
    }

    private static int bit(boolean answer) {
        return answer ? 1 : 0;
    }

    private static void none(String name, int bytes, Twins.Call call) {
        Twins.nothing(name, bytes, call, -1);
    }

    private static void screwSeedFeedUndo() {
        for (int wrong : new int[] {LOW, -1, 100, HIGH}) {
            Twins.nothing("screw " + wrong, 20, x -> bit(x.screw(wrong)), 0);
        }
        for (int wrong : new int[] {LOW, -65536, -1, 65536, HIGH}) {
            Twins.nothing("seed " + wrong, 20, x -> bit(x.seed(wrong)), 0);
        }
        none("feed behind 260 bytes", 260, x -> x.feed(-1, -1, -1, -1, -1));
        none("feed behind 260 bytes, again", 260, x -> x.feed(1, 2, 3, 4, 5) + x.feed(1, 2, 3, 4, 5) + 1);
        CorkConfessions fresh = new CorkConfessions();
        fresh.screw(5);
        fresh.seed(7);
        Cork.due("undo, none was KEPT", fresh.undo(), false);
        Cork.due("undo, none was KEPT: SCREW", fresh.count(4), 5);
        Cork.due("undo, none was KEPT: X", fresh.count(7), 7);
    }

    private static void law() {
        for (int wrong : new int[] {LOW, -240, -1, 0, 241, 260, 261, HIGH}) {
            none("law, no such n " + wrong, 260, x -> x.law(wrong));
        }
        none("law, an empty tape", 0, x -> x.law(1));
        none("law, 20 bytes and not 21", 20, x -> x.law(21));
        none("law, 220 bytes and not 221", 220, x -> x.law(221));
        none("law, 220 bytes and not 240", 220, x -> x.law(240));
    }

    private static void witness() {
        for (int wrong : new int[] {LOW, -1, 12, HIGH}) {
            none("witness, no such k " + wrong, 20, x -> x.witness(wrong, 20));
        }
        for (int wrong : new int[] {LOW, -80, -1, 0, 81, 100, HIGH}) {
            none("witness, no such n " + wrong, 100, x -> x.witness(0, wrong));
        }
        none("witness, an empty tape", 0, x -> x.witness(1, 1));
        none("witness, 20 bytes and not 21", 20, x -> x.witness(1, 21));
        none("witness, 60 bytes and not 80", 60, x -> x.witness(1, 80));
    }

    private static void draw() {
        for (int wrong : new int[] {LOW, -1, 1, 4, 10, 12, HIGH}) {
            none("draw, no such k " + wrong, 20, x -> x.draw(wrong, 20));
        }
        for (int wrong : new int[] {LOW, -60, -1, 0, 61, 80, HIGH}) {
            none("draw, no such n " + wrong, 80, x -> x.draw(0, wrong));
        }
        none("draw, an empty tape", 0, x -> x.draw(0, 1));
        none("draw, 20 bytes and not 21", 20, x -> x.draw(0, 21));
        none("draw, 40 bytes and not 60", 40, x -> x.draw(0, 60));
    }

    private static void tried() {
        for (int wrong : new int[] {LOW, -1, 1, 4, 10, 12, HIGH}) {
            none("tried, no such k " + wrong, 20, x -> x.tried(wrong, 20, 0));
        }
        for (int wrong : new int[] {LOW, -60, -1, 0, 61, 80, HIGH}) {
            none("tried, no such n " + wrong, 80, x -> x.tried(0, wrong, 0));
        }
        for (int wrong : new int[] {LOW, -1, 8, HIGH}) {
            none("tried, no such what " + wrong, 20, x -> x.tried(0, 20, wrong));
        }
        none("tried, an empty tape", 0, x -> x.tried(0, 1, 0));
        none("tried, 20 bytes and not 21", 20, x -> x.tried(0, 21, 7));
        none("tried, 40 bytes and not 60", 40, x -> x.tried(0, 60, 7));
    }

    private static void asked() {
        for (int wrong : new int[] {LOW, -1, 1, 4, 10, 12, HIGH}) {
            none("witnessIs, no such k " + wrong, 20, x -> x.witnessIs(wrong, 0));
            none("layerIs, no such k " + wrong, 20, x -> x.layerIs(wrong, 0, 0));
        }
        for (int wrong : new int[] {LOW, -1, 10, HIGH}) {
            none("witnessIs, no such what " + wrong, 20, x -> x.witnessIs(0, wrong));
        }
        for (int wrong : new int[] {LOW, -1, 4, 23, 24, HIGH}) {
            none("layerIs, no such i " + wrong, 20, x -> x.layerIs(0, wrong, 0));
        }
        for (int wrong : new int[] {LOW, -1, 3, HIGH}) {
            none("layerIs, no such what " + wrong, 20, x -> x.layerIs(0, 0, wrong));
        }
        for (int wrong : new int[] {LOW, -1, 9, HIGH}) {
            none("count, no such what " + wrong, 20, x -> x.count(wrong));
        }
    }

    private static void plan() {
        for (int wrong : new int[] {LOW, -1, 1, 4, 10, 12, HIGH}) {
            none("plan, no such k " + wrong, 20, x -> x.plan(wrong, 60, 0));
        }
        for (int wrong : new int[] {LOW, -1, 100, HIGH}) {
            none("plan, no such YEAR " + wrong, 20, x -> x.plan(0, wrong, 0));
        }
        for (int wrong : new int[] {LOW, -1, 2, HIGH}) {
            none("plan, no such what " + wrong, 20, x -> x.plan(0, 60, wrong));
        }
        Twins.nothing("plan, none of that YEAR", 20, x -> x.plan(0, 98, 0), -2);
        Twins.nothing("plan, BROKEN", 20, x -> x.plan(5, 99, 1), -2);
        Twins.nothing("plan, wrong what of a BROKEN one", 20, x -> x.plan(5, 99, 2), -1);
        Twins.nothing("plan", 20, x -> x.plan(0, 60, 1), 1);
    }

    private static void stories() {
        for (int wrong : new int[] {LOW, -1, 65536, HIGH}) {
            none("heard, no such SINS " + wrong, 20, x -> x.heard(wrong, 0));
        }
        for (int wrong : new int[] {LOW, -1, 2, HIGH}) {
            none("heard, no such what " + wrong, 20, x -> x.heard(1, wrong));
            none("years, no such what " + wrong, 20, x -> x.years(1, wrong));
            none("peak, no such what " + wrong, 20, x -> x.peak(wrong));
        }
        for (int wrong : new int[] {LOW, -1, 1, 4, 10, 12, HIGH}) {
            none("agree, no such k " + wrong, 20, x -> x.agree(wrong, 0));
            none("agree, no such l " + wrong, 20, x -> x.agree(0, wrong));
            none("agree, neither " + wrong, 20, x -> x.agree(wrong, wrong));
            none("atOdds, no such k " + wrong, 20, x -> x.atOdds(wrong, 0));
            none("atOdds, no such l " + wrong, 20, x -> x.atOdds(0, wrong));
            none("atOdds, neither " + wrong, 20, x -> x.atOdds(wrong, wrong));
        }
        for (int wrong : new int[] {LOW, -1, 0, 13, HIGH}) {
            none("years, no such m " + wrong, 20, x -> x.years(wrong, 0));
        }
        for (int wrong : new int[] {LOW, -1, 16, 32, HIGH}) {
            none("who, no such SIN " + wrong, 20, x -> x.who(wrong));
        }
        Twins.nothing("heard", 20, x -> x.heard(1, 1), 1);
        Twins.nothing("heard, not all can be", 20, x -> x.heard(65535, 1), -2);
        Twins.nothing("agree", 20, x -> x.agree(0, 11), 1);
        Twins.nothing("atOdds", 20, x -> x.atOdds(0, 5), 0);
        Twins.nothing("years", 20, x -> x.years(2, 1), 60);
        Twins.nothing("peak", 20, x -> x.peak(1), 3);
        Twins.nothing("who", 20, x -> x.who(0), 1 | 1 << 5 | 1 << 11);
    }

    private static void jury() {
        for (int wrong : new int[] {LOW, -1, 0, 13, 20, HIGH}) {
            none("jury, no such n " + wrong, 20, x -> x.jury(wrong, 0));
        }
        for (int wrong : new int[] {LOW, -1, 13, HIGH}) {
            none("jury, no such k " + wrong, 20, x -> x.jury(1, wrong));
        }
        none("jury, an empty tape", 0, x -> x.jury(1, 0));
    }

    private static void tasters() {
        for (int wrong : new int[] {LOW, -1, 0, 1, 7, HIGH}) {
            none("tasters, no such n " + wrong, 20, x -> x.tasters(wrong, 1, 100));
            none("tasters, no such n, place 0 " + wrong, 20, x -> x.tasters(wrong, 1, 0));
        }
        for (int wrong : new int[] {LOW, -1, 0, 10, HIGH}) {
            none("tasters, no such m " + wrong, 20, x -> x.tasters(2, wrong, 100));
        }
        for (int wrong : new int[] {LOW, -100, -1, 3, 6, 99, 101, HIGH}) {
            none("tasters, no such what " + wrong, 20, x -> x.tasters(3, 2, wrong));
        }
        none("tasters, no place 6 of 6", 20, x -> x.tasters(6, 1, 6));
        none("tasters, an empty tape", 0, x -> x.tasters(2, 1, 100));
        none("tasters, 20 bytes and not 21", 20, x -> x.tasters(3, 7, 100));
        none("tasters, 40 bytes and not 42", 40, x -> x.tasters(6, 7, 100));
        none("tasters, 40 bytes and not 54", 40, x -> x.tasters(6, 9, 0));
        // (1 << 30) times 4 is 0 with 32 bits
        none("tasters, n m that wraps around", 20, x -> x.tasters(1 << 30, 4, 100));
        none("tasters, m that wraps around", 20, x -> x.tasters(4, (1 << 30) + 1, 100));
    }

    private static void jugs() {
        for (int wrong : new int[] {LOW, -1, 21, HIGH}) {
            none("jugs, not so much " + wrong, 20, x -> x.jugs(wrong, 0));
            none("jugs, not so much, ways " + wrong, 20, x -> x.jugs(wrong, 1));
        }
        for (int wrong : new int[] {LOW, -1, 2, HIGH}) {
            none("jugs, no such what " + wrong, 20, x -> x.jugs(4, wrong));
        }
        none("jugs, an empty tape", 0, x -> x.jugs(4, 0));
        none("jugs, an empty tape, ways", 0, x -> x.jugs(4, 1));
    }

    private static void cellar() {
        for (int wrong : new int[] {LOW, -1, 0, 9, 10, HIGH}) {
            none("cellar, no such n " + wrong, 20, x -> x.cellar(wrong, 0, 100));
            none("cellar, no such n, YEAR 0 " + wrong, 20, x -> x.cellar(wrong, 0, 0));
        }
        for (int wrong : new int[] {LOW, -1, 100, HIGH}) {
            none("cellar, from no such YEAR " + wrong, 20, x -> x.cellar(1, wrong, 100));
        }
        for (int wrong : new int[] {LOW, -100, -1, 2, 8, 99, 101, HIGH}) {
            none("cellar, no such what " + wrong, 20, x -> x.cellar(2, 0, wrong));
        }
        none("cellar, no YEAR 8 of 8", 20, x -> x.cellar(8, 0, 8));
        none("cellar, an empty tape", 0, x -> x.cellar(1, 0, 100));
        none("cellar, 2 n that wraps around", 20, x -> x.cellar(LOW + 1, 0, 100));
    }

    private static void wear() {
        for (int wrong : new int[] {LOW, -1, 0, 11, 20, HIGH}) {
            none("wear, no such n " + wrong, 20, x -> x.wear(wrong, 5, 0));
        }
        for (int wrong : new int[] {LOW, -1, 100, HIGH}) {
            none("wear, not good for so many " + wrong, 20, x -> x.wear(1, wrong, 0));
        }
        for (int wrong : new int[] {LOW, -1, 2, HIGH}) {
            none("wear, no such what " + wrong, 20, x -> x.wear(1, 5, wrong));
        }
        none("wear, an empty tape", 0, x -> x.wear(1, 5, 0));
    }

    private static void check() {
        for (int wrong : new int[] {LOW, -1, 13, 20, HIGH}) {
            Twins.nothing("check, no such n " + wrong, 20, x -> x.check(wrong), -2);
        }
        Twins.nothing("check, an empty tape", 0, x -> x.check(1), -2);
        Twins.nothing("check, an empty tape and 12", 0, x -> x.check(12), -2);
    }
}
