/** "Empty then": what a call that reads the tape leaves, and that it reads its first n bytes alone. */
public final class TapeTest {
    public static void main(String[] args) {
        fed();
        faults();
        puzzles();
        checked();
        firstBytesAlone();
        emptiedWhole();
        Cork.finish("TapeTest");
    }

    private static Twins.Call text(String text) {
        return x -> with(x).feed(text);
    }

    private static Twins.Call bytes(int... row) {
        return x -> with(x).feed(row);
    }

    private static Cork with(CorkConfessions x) {
        Cork c = new Cork();
        c.x = x;
        return c;
    }

    /** "Twenty bytes come behind the tape, the highest of each int first .. NONE if that would be more than 260." */
    private static void fed() {
        CorkConfessions x = new CorkConfessions();
        Cork.due("a new tape", x.count(6), 0);
        for (int size = 20; size <= 260; size += 20) {
            Cork.due("feed", x.feed(0x6162_6364, 0, 0, 0, 0), size);
            Cork.due("bytes then", x.count(6), size);
        }
        Cork.due("a 14th feed", x.feed(0, 0, 0, 0, 0), -1);
        Cork.due("bytes still", x.count(6), 260);
        Cork.due("260 bytes are read, too", x.law(240), -1001);
        Cork.due("a feed then", x.feed(0, 0, 0, 0, 0), 20);
        Cork c = new Cork();
        c.x.feed(0x0001_0203, 0x0405_0607, 0x0809_0a0b, 0, 0);
        Cork.due("each byte at its place", c.x.cellar(6, 0, 100), 1 * 0 + 3 * 1 + 5 * 2 + 7 * 3 + 9 * 4 + 11 * 5);
        c.x.feed(0xFFFF_FFFF, 0xFFFF_FFFF, 0xFFFF_FFFF, 0xFFFF_FFFF, 0xFFFF_FFFF);
        Cork.due("bytes are 0 to 255", c.x.check(12), -1);
        c.x.feed(0x8081_8283, 0, 0, 0, 0);
        Cork.due("a byte above 127 is above 10", c.x.jury(1, 0), -2);
    }

    /** "A FAULT (the one before stays)", "a FAULT (nothing is done)". */
    private static void faults() {
        Twins.tapeAlone("law, a FAULT", text("g1(1=1);"), x -> x.law(8), -1008);
        Twins.tapeAlone("law, a FAULT 2", text("g123456(1=1)"), x -> x.law(12), -2006);
        Twins.tapeAlone("law, a FAULT 5", text("x(((((((1=1)))))))"), x -> x.law(18), -5007);
        Twins.tapeAlone("law, a FAULT 4", text("x(1=1);".repeat(17)), x -> x.law(118), -4112);
        Twins.tapeAlone("witness, a FAULT", text("70a71b("), x -> x.witness(0, 7), -1007);
        Twins.tapeAlone("witness, a FAULT of one that is not told", text("70a71b("), x -> x.witness(1, 7), -1007);
        Twins.tapeAlone("witness, a FAULT 5", text("70a((("), x -> x.witness(11, 6), -5005);
        Twins.tapeAlone("witness, a FAULT 6", text("*5(*570a)"), x -> x.witness(0, 9), -6000);
        Twins.tapeAlone("draw, a FAULT", text("3tpo3"), x -> x.draw(0, 5), -1005);
        Twins.tapeAlone("draw, a FAULT 5", text("3tpo((("), x -> x.draw(0, 7), -5006);
        Twins.tapeAlone("draw, a FAULT 6", text("3tpo2(6(8t))"), x -> x.draw(0, 12), -6004);
        Twins.tapeAlone("draw, a FAULT of a BROKEN one", text("3tpo3"), x -> x.draw(5, 5), -1005);
        Twins.tapeAlone("tried, a FAULT", text("3tpo3"), x -> x.tried(0, 5, 7), -1005);
        Twins.tapeAlone("tried, a FAULT of a BROKEN one", text("3tpo3"), x -> x.tried(5, 5, 1), -1005);
        Twins.tapeAlone("tried", text("s2ob4s9t"), x -> x.tried(11, 8, 1), -2);
        Twins.tapeAlone("tried till he is BROKEN", text("9t9t"), x -> x.tried(11, 4, 1), 13);
        Twins.tapeAlone("tried on a BROKEN one", text("9t9t"), x -> x.tried(5, 4, 1), -3);
        Twins.tapeAlone("draw a BROKEN one", text("c9t9t"), x -> x.draw(5, 5), 0);
    }

    private static void puzzles() {
        Twins.tapeAlone("jury", bytes(5, 5), x -> x.jury(2, 1), 75);
        Twins.tapeAlone("jury, 11 tenths", bytes(5, 11), x -> x.jury(2, 1), -2);
        Twins.tapeAlone("tasters", bytes(1, 0), x -> x.tasters(2, 1, 0), 1);
        Twins.tapeAlone("tasters, -3", bytes(1, 1), x -> x.tasters(2, 1, 0), -3);
        Twins.tapeAlone("jugs", bytes(8, 8, 5, 0, 3, 0), x -> x.jugs(4, 0), 6);
        Twins.tapeAlone("jugs, it can't be", bytes(8, 8, 4, 0, 2, 0), x -> x.jugs(3, 0), -2);
        Twins.tapeAlone("jugs, -3", bytes(8, 9, 5, 0, 3, 0), x -> x.jugs(4, 0), -3);
        Twins.tapeAlone("cellar", bytes(60, 5), x -> x.cellar(1, 58, 100), 10);
        Twins.tapeAlone("cellar, -3", bytes(60, 51), x -> x.cellar(1, 58, 100), -3);
        Twins.tapeAlone("wear", bytes(3, 4), x -> x.wear(2, 4, 1), 16);
        Twins.tapeAlone("wear, -3", bytes(3, 10), x -> x.wear(2, 4, 1), -3);
    }

    private static void checked() {
        Twins.tapeAlone("check, right", bytes(1, 255), x -> x.check(2), -1);
        Twins.tapeAlone("check, not so", bytes(1, 0), x -> x.check(2), 1);
        Twins.tapeAlone("check, no bytes", bytes(9, 9), x -> x.check(0), -1);
    }

    private static void firstBytesAlone() {
        Cork c = new Cork();
        c.feed("61c60a(");
        Cork.due("witness by three of the bytes", c.x.witness(0, 3), 1);
        c.feed("61c60a(");
        Cork.due("witness by five: the end", c.x.witness(0, 5), -1005);
        c.feed("x(1=1);x(1=1)");
        Cork.due("law by six of the bytes", c.x.law(6), 1);
        c.feed("x(1=1);x(1=1)");
        Cork.due("law by twelve: the end", c.x.law(12), -1012);
        c.feed("t(");
        Cork.due("draw by one of the bytes", c.x.draw(0, 1), 0);
        c.feed("2t");
        Cork.due("draw by one: the end", c.x.draw(0, 1), -1001);
        c.feed("2t");
        Cork.due("tried by one: the end", c.x.tried(0, 1, 4), -1001);
        c.feed(10, 11);
        Cork.due("jury by one of the bytes", c.x.jury(1, 1), 10);
        c.feed(0, 1, 9, 9);
        Cork.due("tasters by two of the bytes", c.x.tasters(2, 1, 1), 1);
        c.feed(8, 8, 5, 0, 3, 0, 99);
        Cork.due("jugs by six of the bytes", c.x.jugs(4, 0), 6);
        c.feed(99, 50, 100, 51);
        Cork.due("cellar by two of the bytes", c.x.cellar(1, 98, 100), 50);
        c.feed(9, 10);
        Cork.due("wear by one of the bytes", c.x.wear(1, 9, 1), 81);
        c.feed(0, 254);
        Cork.due("check by one of the bytes", c.x.check(1), -1);
    }

    /** Not the first n bytes alone go: a text fed then stands at the tape's beginning. */
    private static void emptiedWhole() {
        Cork c = new Cork();
        c.feed("61c".repeat(20));
        Cork.due("60 bytes", c.x.count(6), 60);
        c.x.witness(0, 3);
        Cork.due("witness empties them all", c.x.count(6), 0);
        Cork.due("what comes then is first", c.witness(0, "70a71b"), 2);
        Cork.due("its YEAR", c.x.layerIs(0, 0, 0), 70);
        c.feed("t".repeat(60));
        c.x.draw(0, 1);
        Cork.due("draw empties them all", c.x.count(6), 0);
        c.feed("t".repeat(60));
        c.x.tried(0, 1, 0);
        Cork.due("tried empties them all", c.x.count(6), 0);
        c.feed("x(1=1);".repeat(30));
        c.x.law(6);
        Cork.due("law empties them all", c.x.count(6), 0);
    }
}
