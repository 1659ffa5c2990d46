/** Promises 1 a new object, 2 screw, 3 feed, 22 seed, 26 count. */
public final class StateTest {
    public static void main(String[] args) {
        newObject();
        screw();
        feed();
        seed();
        count();
        Cork.finish("StateTest");
    }

    private static void newObject() {
        CorkConfessions x = new CorkConfessions();
        Cork.due("NONE", CorkConfessions.NONE, -1);
        int[] due = {0, 0, 0, 0, 99, 0, 0, 1, 0};
        for (int what = 0; what < due.length; what++) {
            Cork.due("new count " + what, x.count(what), due[what]);
        }
        for (int k = -1; k <= 12; k++) {
            Cork.due("new witnessIs " + k, x.witnessIs(k, 0), -1);
            Cork.due("new layerIs " + k, x.layerIs(k, 0, 0), -1);
            Cork.due("new plan " + k, x.plan(k, 0, 0), -1);
        }
        Cork.due("new undo", x.undo(), false);
    }

    private static void screw() {
        CorkConfessions x = new CorkConfessions();
        Cork.due("screw 0", x.screw(0), true);
        Cork.due("count 4", x.count(4), 0);
        Cork.due("screw 99", x.screw(99), true);
        Cork.due("screw 57", x.screw(57), true);
        Cork.due("screw 100", x.screw(100), false);
        Cork.due("screw -1", x.screw(-1), false);
        Cork.due("screw min", x.screw(Integer.MIN_VALUE), false);
        Cork.due("a refused one changes nothing", x.count(4), 57);
    }

    private static void feed() {
        CorkConfessions x = new CorkConfessions();
        for (int size = 20; size <= 260; size += 20) {
            Cork.due("feed to " + size, x.feed(1, 2, 3, 4, 5), size);
        }
        Cork.due("feed beyond 260", x.feed(1, 2, 3, 4, 5), -1);
        Cork.due("tape after it", x.count(6), 260);
        x = new CorkConfessions();
        // The highest byte of each int first: 255 for all that are not told, but for the third.
        x.feed(0xFFFF_03FF, -1, -1, -1, -1);
        Cork.due("the third byte", x.check(5), 2);
        Cork.due("the tape is empty", x.count(6), 0);
    }

    private static void seed() {
        Cork c = new Cork();
        Cork.due("seed -1", c.x.seed(-1), false);
        Cork.due("seed 65536", c.x.seed(65536), false);
        Cork.due("X stays", c.x.count(7), 1);
        Cork.due("seed 65535", c.x.seed(65535), true);
        Cork.due("X", c.x.count(7), 65535);
        c.witness(0, "61c");
        c.draw(0, "b");
        // 25173 * 65535 + 13849 = 54212 (modulo 65536)
        Cork.due("X after one DRAW", c.x.count(7), (25173L * 65535 + 13849) % 65536);
        Cork.due("seed 0", c.x.seed(0), true);
        c.draw(0, "b");
        Cork.due("X after one DRAW from 0", c.x.count(7), 13849);
    }

    private static void count() {
        Cork c = new Cork();
        c.witness(0, "*361c");
        c.witness(11, "*461c");
        c.witness(5, "61c");
        c.law("g0(k=0);d1(1=1);g9(1=1)");
        c.draw(0, "po");
        c.draw(5, "5p");
        Cork.due("CONFESSED", c.x.count(0), 1);
        Cork.due("told", c.x.count(1), 1 | 1 << 11 | 1 << 5);
        Cork.due("BROKEN", c.x.count(2), 1 << 5);
        Cork.due("OPEN", c.x.count(3), 1);
        c.draw(0, "ct");
        Cork.due("OPEN no more", c.x.count(3), 0);
        Cork.due("SCREW", c.x.count(4), 98);
        Cork.due("RULES", c.x.count(5), 3);
        Cork.due("tape", c.x.count(6), 0);
        c.feed("abc");
        Cork.due("tape fed", c.x.count(6), 20);
        Cork.due("LAYERS left", c.x.count(8), 2 + 4 + 1);
        Cork.due("count 9", c.x.count(9), -1);
        Cork.due("count -1", c.x.count(-1), -1);
    }
}
