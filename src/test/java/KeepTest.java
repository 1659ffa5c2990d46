/** Promises 23 keep, 24 undo, 25 check. */
public final class KeepTest {
    private static final String LAW = "g1(1=1);f7(1=1);d2(1=1)";

    public static void main(String[] args) {
        keepAndUndo();
        toldBetween();
        keptTwice();
        check();
        Cork.finish("KeepTest");
    }

    private static void keepAndUndo() {
        Cork c = new Cork();
        Cork.due("none was KEPT", c.x.undo(), false);
        c.witness(0, "61c60a59b58d");
        c.witness(1, "61c");
        c.law(LAW);
        c.draw(0, "stpsoct");
        Cork.due("keep", c.x.keep(), 2);
        int[] counts = new int[9];
        int[] is = new int[10];
        for (int what = 0; what < 10; what++) {
            is[what] = c.x.witnessIs(0, what);
            if (what < 9) {
                counts[what] = c.x.count(what);
            }
        }
        c.draw(0, "tp2o3s");
        c.draw(1, "5p");
        c.x.screw(5);
        c.x.seed(77);
        c.law("x(1=1)");
        c.feed("abc");
        Cork.due("undo", c.x.undo(), true);
        for (int what = 0; what < 10; what++) {
            Cork.due("witnessIs as KEPT " + what, c.x.witnessIs(0, what), is[what]);
        }
        for (int what = 0; what < 9; what++) {
            boolean stays = what == 5 || what == 6;
            int now = what == 5 ? 1 : 20;
            Cork.due("count as KEPT " + what, c.x.count(what), stays ? now : counts[what]);
        }
        Cork.due("not BROKEN", c.x.witnessIs(1, 6), 0);
        c.x.screw(3);
        Cork.due("undo again", c.x.undo(), true);
        Cork.due("SCREW again", c.x.count(4), counts[4]);
    }

    private static void toldBetween() {
        Cork c = new Cork();
        c.witness(0, "61c60a59b58d");
        c.law("d2(1=1)");
        c.draw(0, "p2o");
        c.x.keep();
        c.witness(0, "70a69b68c");
        c.witness(5, "61c60a");
        c.draw(5, "po");
        Cork.due("CONFESSED", c.x.count(0), 6);
        c.x.undo();
        Cork.due("LAYERS stay as told now", c.x.witnessIs(0, 0), 3);
        Cork.due("the YEAR", c.x.layerIs(0, 0, 0), 70);
        Cork.due("OUT no more than there are", c.x.witnessIs(0, 1), 3);
        Cork.due("OPEN as KEPT", c.x.witnessIs(0, 5), 1);
        Cork.due("told later, told still", c.x.count(1), 33);
        Cork.due("told later: OUT", c.x.witnessIs(5, 1), 0);
        Cork.due("told later: OPEN", c.x.witnessIs(5, 5), 0);
        Cork.due("told later: CORK", c.x.witnessIs(5, 3), 9);
        Cork.due("CONFESSED as KEPT", c.x.count(0), 4);
        c.witness(0, "70a69b68c67d66e65f");
        c.x.undo();
        Cork.due("OUT as KEPT", c.x.witnessIs(0, 1), 4);
    }

    private static void keptTwice() {
        Cork c = new Cork();
        c.x.screw(10);
        c.x.keep();
        c.x.screw(20);
        Cork.due("keep", c.x.keep(), 0);
        c.x.screw(30);
        c.x.undo();
        Cork.due("as KEPT last", c.x.count(4), 20);
    }

    private static void check() {
        Cork c = new Cork();
        Cork.due("no bytes", c.x.check(0), -1);
        Cork.due("nobody told", c.check(255, 255, 255, 255, 255, 255, 255, 255, 255, 255, 255, 255), -1);
        Cork.due("the tape is empty", c.x.count(6), 0);
        Cork.due("the last one", c.check(255, 255, 255, 255, 255, 255, 255, 255, 255, 255, 255, 0), 11);
        c.witness(0, "61c60a");
        c.witness(2, "61c60a");
        c.law("d1(1=1)");
        c.draw(2, "po");
        Cork.due("right", c.check(0, 255, 1), -1);
        Cork.due("the first that is not so", c.check(0, 0, 0), 1);
        Cork.due("a told one is not 255", c.check(255, 255, 1), 0);
        Cork.due("the third", c.check(0, 255, 2), 2);
        Cork.due("n -1", c.x.check(-1), -2);
        Cork.due("not enough", c.x.check(1), -2);
        c.feed(0, 255, 1);
        Cork.due("n 13", c.x.check(13), -2);
        Cork.due("the tape stays", c.x.count(6), 20);
        Cork.due("n 0", c.x.check(0), -1);
        Cork.due("n 0 empties the tape", c.x.count(6), 0);
    }
}
