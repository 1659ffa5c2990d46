/** Promises 17 jury, 18 tasters, 19 jugs, 20 cellar, 21 wear. */
public final class PuzzlesTest {
    public static void main(String[] args) {
        jury();
        juryRefused();
        tasters();
        tastersRefused();
        jugs();
        jugsRefused();
        cellar();
        cellarRefused();
        wear();
        wearRefused();
        Cork.finish("PuzzlesTest");
    }

    private static void jury() {
        Cork c = new Cork();
        Cork.due("one", c.jury(1, 3), 3);
        Cork.due("none needed", c.jury(0, 3), 10);
        Cork.due("more than there are", c.jury(2, 3), 0);
        Cork.due("two of two", c.jury(2, 3, 4), 12);
        Cork.due("one of two", c.jury(1, 3, 4), 100 - 7 * 6);
        Cork.due("surely", c.jury(2, 10, 10, 0), 1000);
        Cork.due("never", c.jury(3, 10, 10, 0), 0);
        Cork.due("two of three", c.jury(2, 5, 5, 5), 500);
        Cork.due("twelve", c.jury(12, 10, 10, 10, 10, 10, 10, 10, 10, 10, 10, 10, 10), 1000000000000L);
        Cork.due("of twelve none", c.jury(0, 1, 2, 3, 4, 5, 6, 7, 8, 9, 10, 0, 5), 1000000000000L);
        Cork.due("of twelve seven", c.jury(7, 5, 5, 5, 5, 5, 5, 5, 5, 5, 5, 5, 5), 1586L * 244140625L);
        Cork.due("the tape is empty", c.x.count(6), 0);
    }

    private static void juryRefused() {
        Cork c = new Cork();
        Cork.due("11 tenths", c.jury(0, 3, 11), -2);
        Cork.due("the tape is empty", c.x.count(6), 0);
        Cork.due("255 tenths", c.jury(0, 255), -2);
        Cork.due("not enough", c.x.jury(1, 0), -1);
        c.feed(1, 2, 3, 99);
        Cork.due("n 0", c.x.jury(0, 0), -1);
        Cork.due("n 13", c.x.jury(13, 0), -1);
        Cork.due("k -1", c.x.jury(3, -1), -1);
        Cork.due("k 13", c.x.jury(3, 13), -1);
        Cork.due("the tape stays", c.x.count(6), 20);
        Cork.due("k 12", c.x.jury(3, 12), 0);
    }

    private static void tasters() {
        Cork c = new Cork();
        int[] row = {3, 1, 0, 2};
        Cork.due("one, cases", c.tasters(4, 100, row), 0);
        for (int place = 0; place < 4; place++) {
            Cork.due("one, place " + place, c.tasters(4, place, row), row[place]);
        }
        Cork.due("two at odds, cases", c.tasters(2, 100, 0, 1, 1, 0), 1);
        Cork.due("two at odds: the least row", c.tasters(2, 0, 1, 0, 0, 1), 0);
        Cork.due("two to one", c.tasters(2, 0, 1, 0, 0, 1, 1, 0), 1);
        Cork.due("two to one, cases", c.tasters(2, 100, 1, 0, 0, 1, 1, 0), 1);
        int[] ring = {0, 1, 2, 1, 2, 0, 2, 0, 1};
        Cork.due("a ring, cases", c.tasters(3, 100, ring), 4);
        Cork.due("a ring, place 0", c.tasters(3, 0, ring), 0);
        Cork.due("a ring, place 1", c.tasters(3, 1, ring), 1);
        Cork.due("a ring, place 2", c.tasters(3, 2, ring), 2);
        int[] six = new int[54];
        for (int i = 0; i < 54; i++) {
            six[i] = 5 - i % 6;
        }
        Cork.due("nine of six, cases", c.tasters(6, 100, six), 0);
        Cork.due("nine of six, place 0", c.tasters(6, 0, six), 5);
        Cork.due("nine of six, place 5", c.tasters(6, 5, six), 0);
        Cork.due("the tape is empty", c.x.count(6), 0);
    }

    private static void tastersRefused() {
        Cork c = new Cork();
        Cork.due("one twice", c.tasters(3, 100, 0, 1, 1), -3);
        Cork.due("no such wine", c.tasters(3, 100, 0, 1, 3), -3);
        Cork.due("the second row", c.tasters(3, 100, 0, 1, 2, 2, 1, 255), -3);
        Cork.due("the tape is empty", c.x.count(6), 0);
        Cork.due("not enough", c.x.tasters(2, 1, 100), -1);
        c.feed(0, 1, 0, 1);
        Cork.due("n 1", c.x.tasters(1, 1, 100), -1);
        Cork.due("n 7", c.x.tasters(7, 1, 100), -1);
        Cork.due("m 0", c.x.tasters(2, 0, 100), -1);
        Cork.due("m 10", c.x.tasters(2, 10, 100), -1);
        Cork.due("n m above the tape", c.x.tasters(3, 7, 100), -1);
        Cork.due("what 2 of 2", c.x.tasters(2, 2, 2), -1);
        Cork.due("what -1", c.x.tasters(2, 2, -1), -1);
        Cork.due("what 99", c.x.tasters(2, 2, 99), -1);
        Cork.due("the tape stays", c.x.count(6), 20);
        Cork.due("what 1 of 2", c.x.tasters(2, 2, 1), 1);
    }

    private static void jugs() {
        Cork c = new Cork();
        Cork.due("8 5 3, 4", c.jugs(4, 0, 8, 8, 5, 0, 3, 0), 6);
        Cork.due("8 5 3, 8", c.jugs(8, 0, 8, 8, 5, 0, 3, 0), 0);
        Cork.due("8 5 3, 0", c.jugs(0, 0, 8, 8, 5, 0, 3, 0), 0);
        Cork.due("8 5 3, 5", c.jugs(5, 0, 8, 8, 5, 0, 3, 0), 1);
        Cork.due("8 5 3, 2", c.jugs(2, 0, 8, 8, 5, 0, 3, 0), 2);
        Cork.due("8 5 3, 9", c.jugs(9, 0, 8, 8, 5, 0, 3, 0), -2);
        Cork.due("8 5 3, ways", c.jugs(9, 1, 8, 8, 5, 0, 3, 0), 16);
        Cork.due("4 4 4, ways", c.jugs(0, 1, 4, 4, 4, 0, 4, 0), 3);
        Cork.due("all empty, ways", c.jugs(0, 1, 20, 0, 20, 0, 20, 0), 1);
        Cork.due("all full, ways", c.jugs(0, 1, 20, 20, 20, 20, 20, 20), 1);
        Cork.due("all full, 20", c.jugs(20, 0, 20, 20, 20, 20, 20, 20), 0);
        Cork.due("all full, 19", c.jugs(19, 0, 20, 20, 20, 20, 20, 20), -2);
        Cork.due("no jugs", c.jugs(0, 0, 0, 0, 0, 0, 0, 0), 0);
        Cork.due("no jugs, ways", c.jugs(20, 1, 0, 0, 0, 0, 0, 0), 1);
        Cork.due("the third jug holds it", c.jugs(3, 0, 5, 5, 1, 1, 7, 3), 0);
        Cork.due("the tape is empty", c.x.count(6), 0);
    }

    private static void jugsRefused() {
        Cork c = new Cork();
        Cork.due("a jug of 21", c.jugs(0, 0, 8, 8, 21, 0, 3, 0), -3);
        Cork.due("fuller than big", c.jugs(0, 0, 8, 8, 5, 0, 3, 4), -3);
        Cork.due("fuller than big, ways", c.jugs(0, 1, 8, 9, 5, 0, 3, 0), -3);
        Cork.due("the tape is empty", c.x.count(6), 0);
        Cork.due("not enough", c.x.jugs(0, 0), -1);
        c.feed(8, 8, 5, 0, 3, 0);
        Cork.due("much -1", c.x.jugs(-1, 0), -1);
        Cork.due("much 21", c.x.jugs(21, 0), -1);
        Cork.due("what 2", c.x.jugs(4, 2), -1);
        Cork.due("what -1", c.x.jugs(4, -1), -1);
        Cork.due("the tape stays", c.x.count(6), 20);
        Cork.due("much 20", c.x.jugs(20, 0), -2);
    }

    private static void cellar() {
        Cork c = new Cork();
        Cork.due("one at its best", c.cellar(60, 100, 60, 50), 0);
        Cork.due("one too early", c.cellar(60, 100, 65, 50), 250);
        Cork.due("one too late", c.cellar(60, 100, 58, 50), 100);
        Cork.due("which", c.cellar(60, 0, 58, 50), 0);
        int[] three = {62, 5, 60, 5, 61, 5};
        Cork.due("three at their best", c.cellar(60, 100, three), 0);
        Cork.due("in YEAR 0", c.cellar(60, 0, three), 1);
        Cork.due("in YEAR 1", c.cellar(60, 1, three), 2);
        Cork.due("in YEAR 2", c.cellar(60, 2, three), 0);
        int[] rivals = {60, 1, 60, 9, 60, 5};
        Cork.due("rivals", c.cellar(60, 100, rivals), 5 + 2);
        Cork.due("the dearest first", c.cellar(60, 0, rivals), 1);
        Cork.due("then the next", c.cellar(60, 1, rivals), 2);
        int[] alike = {70, 3, 70, 3, 70, 3};
        Cork.due("alike", c.cellar(60, 100, alike), 3 * (10 + 9 + 8));
        for (int year = 0; year < 3; year++) {
            Cork.due("alike: the least row " + year, c.cellar(60, year, alike), year);
        }
        int[] eight = {99, 50, 99, 50, 99, 50, 99, 50, 99, 50, 99, 50, 99, 50, 99, 50};
        Cork.due("eight", c.cellar(0, 100, eight), 50 * (99 * 8 - 28));
        Cork.due("eight from 99 on", c.cellar(99, 100, eight), 50 * 28);
        Cork.due("eight, the last", c.cellar(99, 7, eight), 7);
        Cork.due("worth nothing", c.cellar(0, 100, 99, 0, 50, 0), 0);
        Cork.due("the tape is empty", c.x.count(6), 0);
    }

    private static void cellarRefused() {
        Cork c = new Cork();
        Cork.due("YEAR 100", c.cellar(0, 100, 100, 5), -3);
        Cork.due("worth 51", c.cellar(0, 100, 99, 51), -3);
        Cork.due("the second", c.cellar(0, 100, 99, 50, 99, 255), -3);
        Cork.due("the tape is empty", c.x.count(6), 0);
        Cork.due("not enough", c.x.cellar(1, 0, 100), -1);
        c.feed(60, 5, 61, 5);
        Cork.due("n 0", c.x.cellar(0, 0, 100), -1);
        Cork.due("n 9", c.x.cellar(9, 0, 100), -1);
        Cork.due("from -1", c.x.cellar(2, -1, 100), -1);
        Cork.due("from 100", c.x.cellar(2, 100, 100), -1);
        Cork.due("what 2 of 2", c.x.cellar(2, 0, 2), -1);
        Cork.due("what -1", c.x.cellar(2, 0, -1), -1);
        Cork.due("the tape stays", c.x.count(6), 20);
        Cork.due("n 2", c.x.cellar(2, 60, 1), 1);
    }

    private static void wear() {
        Cork c = new Cork();
        Cork.due("one cork", c.wear(7, 1, 7), 49);
        Cork.due("one cork too hard", c.wear(6, 0, 7), 0);
        Cork.due("corks", c.wear(10, 0, 5, 4, 3, 2, 1), 4);
        Cork.due("worth", c.wear(10, 1, 5, 4, 3, 2, 1), 25 + 16 + 1);
        Cork.due("the hardest alone", c.wear(9, 1, 9, 3, 3, 3), 81);
        Cork.due("the softest, many", c.wear(9, 0, 9, 3, 3, 3), 3);
        Cork.due("soft ones wear nothing", c.wear(0, 0, 0, 1, 0), 2);
        Cork.due("and are worth nothing", c.wear(0, 1, 0, 1, 0), 0);
        Cork.due("all ten", c.wear(90, 0, 9, 9, 9, 9, 9, 9, 9, 9, 9, 9), 10);
        Cork.due("all but one", c.wear(89, 1, 9, 9, 9, 9, 9, 9, 9, 9, 9, 9), 729);
        Cork.due("good for 99", c.wear(99, 1, 9, 9, 9, 9, 9, 9, 9, 9, 9, 9), 810);
        Cork.due("two of six and not seven", c.wear(12, 1, 7, 6, 6), 72);
        Cork.due("the tape is empty", c.x.count(6), 0);
    }

    private static void wearRefused() {
        Cork c = new Cork();
        Cork.due("hard 10", c.wear(5, 0, 1, 10), -3);
        Cork.due("the tape is empty", c.x.count(6), 0);
        Cork.due("not enough", c.x.wear(1, 5, 0), -1);
        c.feed(1, 2, 3);
        Cork.due("n 0", c.x.wear(0, 5, 0), -1);
        Cork.due("n 11", c.x.wear(11, 5, 0), -1);
        Cork.due("good -1", c.x.wear(3, -1, 0), -1);
        Cork.due("good 100", c.x.wear(3, 100, 0), -1);
        Cork.due("what 2", c.x.wear(3, 5, 2), -1);
        Cork.due("what -1", c.x.wear(3, 5, -1), -1);
        Cork.due("the tape stays", c.x.count(6), 20);
        Cork.due("n 3", c.x.wear(3, 5, 1), 13);
    }
}
