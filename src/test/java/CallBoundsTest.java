import java.util.Arrays;

/** The last values that each call takes, what is empty and what is full; RefusedTest has the first that are not taken. */
public final class CallBoundsTest {
    private static final int ALL = 4095;

    public static void main(String[] args) {
        screwAndSeed();
        witnessesFirstAndLast();
        whats();
        fullAndEmpty();
        layersOut();
        heard();
        agree();
        atOdds();
        years();
        peak();
        who();
        jury();
        tasters();
        jugs();
        cellar();
        wear();
        keepAndUndo();
        undoneOut();
        check();
        counts();
        manyCalls();
        Cork.finish("CallBoundsTest");
    }

    private static void screwAndSeed() {
        CorkConfessions x = new CorkConfessions();
        for (int turns : new int[] {0, 1, 98, 99}) {
            Cork.due("screw " + turns, x.screw(turns), true);
            Cork.due("SCREW " + turns, x.count(4), turns);
        }
        for (int seed : new int[] {0, 1, 65534, 65535}) {
            Cork.due("seed " + seed, x.seed(seed), true);
            Cork.due("X " + seed, x.count(7), seed);
        }
    }

    /** "WITNESSES 0 to 11: told or not". */
    private static void witnessesFirstAndLast() {
        Cork c = new Cork();
        c.law("d1(1=1)");
        for (int k = 0; k < 12; k++) {
            Cork.due("not told " + k, c.x.witnessIs(k, 0), -1);
            c.feed("po");
            Cork.due("draw, not told " + k, c.x.draw(k, 2), -1);
            Cork.due("tried, not told " + k, c.x.tried(k, 2, 0), -1);
            c.x.check(0);
            Cork.due("witness " + k, c.witness(k, "61c60a"), 2);
            Cork.due("told bits " + k, c.x.count(1), (2 << k) - 1);
            Cork.due("witnessIs " + k, c.x.witnessIs(k, 0), 2);
            Cork.due("layerIs " + k, c.x.layerIs(k, 1, 0), 60);
            Cork.due("plan " + k, c.x.plan(k, 60, 0), 3);
            Cork.due("tried " + k, c.tried(k, "po", 0), 1);
            Cork.due("draw " + k, c.draw(k, "po"), 1);
            Cork.due("OPEN bits " + k, c.x.count(3), (2 << k) - 1);
            Cork.due("agree " + k, c.x.agree(k, 0), 2);
            Cork.due("agree with " + k, c.x.agree(0, k), 2);
            Cork.due("atOdds " + k, c.x.atOdds(k, 0), 0);
            Cork.due("atOdds with " + k, c.x.atOdds(0, k), 0);
        }
        c.law("x(1=1)");
        for (int k = 0; k < 12; k++) {
            c.draw(k, "c5p");
            Cork.due("BROKEN bits " + k, c.x.count(2), (2 << k) - 1);
        }
        Cork.due("all BROKEN, none OPEN", c.x.count(3), 0);
        Cork.due("CONFESSED", c.x.count(0), 12);
        Cork.due("LAYERS left of all", c.x.count(8), 12);
    }

    /** The first and the last what of each call. */
    private static void whats() {
        Cork c = new Cork();
        c.witness(0, "61c60a");
        Cork.due("witnessIs 0", c.x.witnessIs(0, 0), 2);
        Cork.due("witnessIs 9", c.x.witnessIs(0, 9), 5);
        Cork.due("layerIs 0", c.x.layerIs(0, 0, 0), 61);
        Cork.due("layerIs 2", c.x.layerIs(0, 1, 2), 0);
        Cork.due("tried 0", c.tried(0, "t", 0), 0);
        Cork.due("tried 7", c.tried(0, "t", 7), 98);
        Cork.due("count 0", c.x.count(0), 0);
        Cork.due("count 8", c.x.count(8), 2);
        Cork.due("heard 0", c.x.heard(4, 0), 1);
        Cork.due("heard 1", c.x.heard(4, 1), 1);
        Cork.due("years 0", c.x.years(1, 0), 2);
        Cork.due("years 1", c.x.years(1, 1), 60);
        Cork.due("peak 0", c.x.peak(0), 60);
        Cork.due("peak 1", c.x.peak(1), 1);
    }

    /** "LAYERS (24 at most)"; "7, 8: none left -2": what a longer one told before had must not show. */
    private static void fullAndEmpty() {
        Cork c = new Cork();
        c.witness(0, "*8(50h)*9(50g)*6(49f)99p");
        Cork.due("full: LAYERS", c.x.witnessIs(0, 0), 24);
        Cork.due("full: OLDEST", c.x.witnessIs(0, 7), 49);
        Cork.due("full: YOUNGEST is the 24th", c.x.witnessIs(0, 8), 99);
        Cork.due("full: SINS", c.x.witnessIs(0, 9), 1 << 7 | 1 << 6 | 1 << 5 | 1 << 15);
        Cork.due("full: the 24th", c.x.layerIs(0, 23, 0), 99);
        Cork.due("full: no 25th", c.x.layerIs(0, 24, 0), -1);
        c.witness(0, "*8(50h)*9(50g)*6(50f)00a");
        Cork.due("full: OLDEST is the 24th", c.x.witnessIs(0, 7), 0);
        Cork.due("full: YOUNGEST", c.x.witnessIs(0, 8), 50);
        Cork.due("full: not OPEN", c.x.witnessIs(0, 5), 0);
        c.law("d9(1=1)");
        c.draw(0, "p3o");
        Cork.due("all OUT: OPEN", c.x.witnessIs(0, 5), 1);
        none(c, "all OUT");
        c.witness(0, "61c");
        Cork.due("told anew: OLDEST", c.x.witnessIs(0, 7), 61);
        Cork.due("told anew: YOUNGEST", c.x.witnessIs(0, 8), 61);
        Cork.due("told anew: SINS", c.x.witnessIs(0, 9), 4);
        Cork.due("told anew: no second", c.x.layerIs(0, 1, 0), -1);
        c.draw(0, "po");
        none(c, "told shorter, all OUT");
    }

    private static void none(Cork c, String name) {
        Cork.due(name + ": OUT", c.x.witnessIs(0, 1), c.x.witnessIs(0, 0));
        Cork.due(name + ": OLDEST", c.x.witnessIs(0, 7), -2);
        Cork.due(name + ": YOUNGEST", c.x.witnessIs(0, 8), -2);
        Cork.due(name + ": SINS", c.x.witnessIs(0, 9), 0);
        Cork.due(name + ": years", c.x.years(1, 1), -2);
        Cork.due(name + ": peak", c.x.peak(0), -2);
        Cork.due(name + ": heard", c.x.heard(128, 0), -2);
        Cork.due(name + ": who", c.x.who(7), 0);
        Cork.due(name + ": left", c.x.count(8), 0);
        Cork.due(name + ": plan", c.x.plan(0, 50, 0), -2);
    }

    /** "2 OUT (1, 0)": the last that came, and the next behind it. */
    private static void layersOut() {
        Cork c = new Cork();
        c.witness(11, "*8(61c60a59b)");
        c.law("d1(1=1)");
        c.draw(11, "p");
        for (int out = 0; out <= 24; out++) {
            Cork.due("OUT", c.x.witnessIs(11, 1), out);
            if (out > 0) {
                Cork.due("the last of " + out + " OUT", c.x.layerIs(11, out - 1, 2), 1);
                Cork.due("the first of " + out + " OUT", c.x.layerIs(11, 0, 2), 1);
            }
            if (out < 24) {
                Cork.due("the next behind " + out + " OUT", c.x.layerIs(11, out, 2), 0);
                Cork.due("the last behind " + out + " OUT", c.x.layerIs(11, 23, 2), 0);
            }
            c.draw(11, "o");
        }
    }

    /** "Some SINS (bits, 0 to 65535)"; "-2: not all can be"; "of like ones the least bits". */
    private static void heard() {
        Cork c = new Cork();
        Cork.due("nobody, no SIN", c.x.heard(0, 0), 0);
        Cork.due("nobody, no SIN, which", c.x.heard(0, 1), 0);
        Cork.due("nobody, the SIN a", c.x.heard(1, 0), -2);
        Cork.due("nobody, the SIN p", c.x.heard(32768, 1), -2);
        c.witness(11, "00a01b02c03d04e05f06g07h08i09j10k11l12m13n14o15p");
        Cork.due("all SINS by the last one", c.x.heard(65535, 1), 2048);
        Cork.due("all SINS by one", c.x.heard(65535, 0), 1);
        c.witness(0, "00a01b02c03d04e05f06g07h08i09j10k11l12m13n14o");
        Cork.due("all but one by the first", c.x.heard(32767, 1), 1);
        Cork.due("all, not by the first", c.x.heard(65535, 1), 2048);
        Cork.due("no SIN", c.x.heard(0, 1), 0);
        Cork twelve = new Cork();
        for (int k = 0; k < 12; k++) {
            twelve.witness(k, "61" + (char) ('a' + k));
        }
        Cork.due("twelve are needed", twelve.x.heard(ALL, 0), 12);
        Cork.due("twelve are needed, which", twelve.x.heard(ALL, 1), ALL);
        Cork.due("eleven are needed", twelve.x.heard(ALL - 1, 0), 11);
        Cork.due("eleven are needed, which", twelve.x.heard(ALL - 1, 1), ALL - 1);
        Cork.due("a thirteenth SIN", twelve.x.heard(2 * ALL + 1, 0), -2);
        twelve.law("d1(1=1)");
        twelve.draw(11, "po");
        Cork.due("what came is gone", twelve.x.heard(ALL, 0), -2);
        Cork.due("the rest is left", twelve.x.heard(2047, 0), 11);
        Cork like = new Cork();
        like.witness(3, "61a61b");
        like.witness(4, "61c61d");
        like.witness(1, "61a61c");
        like.witness(6, "61b61d");
        Cork.due("two by two: 3 and 4, not 1 and 6", like.x.heard(15, 1), 8 | 16);
        like.witness(0, "61a61b61c61d");
        Cork.due("one is fewer than two", like.x.heard(15, 1), 1);
        Cork.due("of like ones the least bits", like.x.heard(1, 1), 1);
    }

    /** "The longest row of LAYERS (all, also those OUT)". */
    private static void agree() {
        Cork c = new Cork();
        c.witness(0, "*8(61c60a59b)");
        c.witness(1, "*8(61c60a59b)");
        c.witness(2, "*961d*960d*659d");
        c.witness(3, "61c");
        c.witness(4, "*959b*960a*661c");
        Cork.due("24 alike", c.x.agree(0, 1), 24);
        Cork.due("none alike", c.x.agree(0, 2), 0);
        Cork.due("one alike", c.x.agree(0, 3), 1);
        Cork.due("one alike, the other way", c.x.agree(3, 0), 1);
        Cork.due("with himself", c.x.agree(2, 2), 24);
        Cork.due("the other way around", c.x.agree(0, 4), 8);
        Cork.due("the other way around, too", c.x.agree(4, 0), 8);
        c.law("d9(1=1)");
        c.draw(0, "p3o");
        Cork.due("all OUT", c.x.witnessIs(0, 1), 24);
        Cork.due("those OUT, too", c.x.agree(0, 1), 24);
        Cork.due("those OUT of one alone", c.x.agree(0, 0), 24);
    }

    /** "YEARS of which both have LAYERS (all), but no SIN of that YEAR alike." */
    private static void atOdds() {
        Cork c = new Cork();
        c.witness(0, "00a99p");
        c.witness(1, "00p99a");
        c.witness(2, "00a99a");
        c.witness(3, "01a98p");
        Cork.due("the first and the last YEAR", c.x.atOdds(0, 1), 2);
        Cork.due("the last alone", c.x.atOdds(0, 2), 1);
        Cork.due("the first alone", c.x.atOdds(1, 2), 1);
        Cork.due("no YEAR of both", c.x.atOdds(0, 3), 0);
        Cork.due("with himself", c.x.atOdds(0, 0), 0);
        c.witness(4, "00o99b99p");
        Cork.due("one alike is enough", c.x.atOdds(0, 4), 1);
        c.law("d9(1=1)");
        c.draw(0, "po");
        Cork.due("those OUT, too", c.x.atOdds(0, 1), 2);
        c.witness(5, "00a01a02a03a04a05a06a07a08a09a10a11a12a13a14a15a16a17a18a19a");
        c.witness(6, "00b01b02b03b04b05b06b07b08b09b10b11b12b13b14b15b16b17b18b19b");
        Cork.due("twenty", c.x.atOdds(5, 6), 20);
    }

    /** "At least m (1 to 12) WITNESSES have a LAYER left .., 1 the first (-2: none)". */
    private static void years() {
        Cork c = new Cork();
        Cork.due("nobody", c.x.years(1, 0), 0);
        Cork.due("nobody, the first", c.x.years(1, 1), -2);
        for (int k = 0; k < 12; k++) {
            Cork.due("not yet " + k, c.x.years(k + 1, 1), -2);
            c.witness(k, k < 11 ? "99p00a*342b" : "99p00a");
            Cork.due("the YEAR 0 " + k, c.x.years(k + 1, 1), 0);
        }
        Cork.due("of twelve", c.x.years(12, 0), 2);
        Cork.due("of eleven", c.x.years(11, 0), 3);
        Cork.due("of one", c.x.years(1, 0), 3);
        c.law("d2(1=1)");
        c.draw(5, "po");
        Cork.due("of twelve then", c.x.years(12, 0), 0);
        Cork.due("of twelve then, the first", c.x.years(12, 1), -2);
        Cork.due("of eleven then", c.x.years(11, 0), 3);
        Cork one = new Cork();
        one.witness(3, "99a*999b");
        Cork.due("the YEAR 99 alone", one.x.years(1, 1), 99);
        Cork.due("many LAYERS are one WITNESS", one.x.years(2, 0), 0);
    }

    /** "PEAK, what 0 the YEAR (none left: -2), 1 how many LAYERS"; "of like ones the lowest". */
    private static void peak() {
        Cork c = new Cork();
        Cork.due("nobody", c.x.peak(0), -2);
        Cork.due("nobody, how many", c.x.peak(1), 0);
        c.witness(0, "99p");
        Cork.due("one LAYER, the YEAR 99", c.x.peak(0), 99);
        Cork.due("one LAYER", c.x.peak(1), 1);
        c.witness(1, "00a");
        Cork.due("of like ones the lowest", c.x.peak(0), 0);
        c.witness(1, "99a");
        Cork.due("of two WITNESSES", c.x.peak(1), 2);
        c.law("d9(1=1)");
        c.draw(0, "po");
        c.draw(1, "po");
        Cork.due("none left", c.x.peak(0), -2);
        Cork.due("none left, how many", c.x.peak(1), 0);
        for (int k = 0; k < 12; k++) {
            c.witness(k, "*8(42a42b42c)");
        }
        Cork.due("all of one YEAR", c.x.peak(0), 42);
        Cork.due("288 LAYERS", c.x.peak(1), 288);
        Cork.due("288 LAYERS left of all", c.x.count(8), 288);
    }

    /** "WHO has a SIN (0 to 15)". */
    private static void who() {
        Cork c = new Cork();
        Cork.due("nobody, a", c.x.who(0), 0);
        Cork.due("nobody, p", c.x.who(15), 0);
        for (int k = 0; k < 12; k++) {
            c.witness(k, "61a60p");
            Cork.due("who a " + k, c.x.who(0), (2 << k) - 1);
            Cork.due("who p " + k, c.x.who(15), (2 << k) - 1);
        }
        Cork.due("who b", c.x.who(1), 0);
        Cork.due("who o", c.x.who(14), 0);
        c.law("d1(1=1)");
        c.draw(11, "po");
        Cork.due("what came is gone", c.x.who(0), ALL >> 1);
        Cork.due("what is left", c.x.who(15), ALL);
    }

    /** "Tenths; n 1 to 12 .., at least k (0 to 12)"; "-2: tenths above 10". */
    private static void jury() {
        Cork c = new Cork();
        Cork.due("one, 0 tenths, k 0", c.jury(0, 0), 10);
        Cork.due("one, 0 tenths, k 1", c.jury(1, 0), 0);
        Cork.due("one, 10 tenths, k 1", c.jury(1, 10), 10);
        Cork.due("one, 10 tenths, k 2", c.jury(2, 10), 0);
        Cork.due("one, 10 tenths, k 12", c.jury(12, 10), 0);
        Cork.due("one, 11 tenths", c.jury(1, 11), -2);
        Cork.due("one, 11 tenths, none needed", c.jury(0, 11), -2);
        Cork.due("one, 255 tenths", c.jury(1, 255), -2);
        int[] twelve = {10, 10, 10, 10, 10, 10, 10, 10, 10, 10, 10, 10};
        Cork.due("twelve, k 12", c.jury(12, twelve), 1000000000000L);
        Cork.due("twelve, k 0", c.jury(0, twelve), 1000000000000L);
        twelve[11] = 1;
        Cork.due("the last is for it in one tenth", c.jury(12, twelve), 100000000000L);
        Cork.due("eleven are enough", c.jury(11, twelve), 1000000000000L);
        twelve[11] = 11;
        Cork.due("the last has 11 tenths", c.jury(0, twelve), -2);
        twelve[11] = 0;
        Cork.due("the last is never for it", c.jury(12, twelve), 0);
        int[] none = new int[12];
        Cork.due("none is for it, k 0", c.jury(0, none), 1000000000000L);
        Cork.due("none is for it, k 1", c.jury(1, none), 0);
        c.feed(3, 4, 255);
        Cork.due("k above n", c.x.jury(2, 3), 0);
    }

    /** "n wines (2 to 6), m TASTERS (1 to 9)"; "-3: a row that does not name each just once". */
    private static void tasters() {
        Cork c = new Cork();
        Cork.due("two wines, one", c.tasters(2, 100, 1, 0), 0);
        Cork.due("two wines, one, place 0", c.tasters(2, 0, 1, 0), 1);
        Cork.due("two wines, one, place 1", c.tasters(2, 1, 1, 0), 0);
        Cork.due("a wine 2 of two", c.tasters(2, 100, 0, 2), -3);
        Cork.due("a wine twice", c.tasters(2, 100, 1, 1), -3);
        Cork.due("a wine twice, place 0", c.tasters(2, 0, 0, 0), -3);
        int[] most = new int[54];
        for (int taster = 0; taster < 9; taster++) {
            for (int place = 0; place < 6; place++) {
                most[6 * taster + place] = taster < 4 ? place : 5 - place;
            }
        }
        Cork.due("six wines, nine", c.tasters(6, 100, most), 4 * 15);
        Cork.due("six wines, nine, place 0", c.tasters(6, 0, most), 5);
        Cork.due("six wines, nine, place 5", c.tasters(6, 5, most), 0);
        most[53] = 6;
        Cork.due("a wine 6 of six, the last byte", c.tasters(6, 100, most), -3);
        most[53] = 1;
        Cork.due("a wine twice, the last byte", c.tasters(6, 100, most), -3);
        most[53] = 255;
        Cork.due("a wine 255", c.tasters(6, 100, most), -3);
        Cork.due("four against four: the least row", c.tasters(2, 0, 1, 0, 0, 1, 1, 0, 0, 1), 0);
        Cork.due("four against four, cases", c.tasters(2, 100, 1, 0, 0, 1, 1, 0, 0, 1), 2);
        c.feed(0, 1, 2, 0, 1, 2, 0, 1, 2, 0, 1, 2, 0, 1, 2, 0, 1, 2, 0, 1);
        Cork.due("18 of 20 bytes", c.x.tasters(3, 6, 100), 0);
        c.feed(3, 2, 1, 0, 3, 2, 1, 0, 3, 2, 1, 0, 3, 2, 1, 0, 3, 2, 1, 0);
        Cork.due("20 of 20 bytes", c.x.tasters(4, 5, 3), 0);
    }

    /** "How big (0 to 20 each), so full (no more than that)"; "so much (0 to 20)"; "-2 (of 0): it can't be". */
    private static void jugs() {
        Cork c = new Cork();
        Cork.due("jugs of 0", c.jugs(0, 0, 0, 0, 0, 0, 0, 0), 0);
        Cork.due("jugs of 0, 1", c.jugs(1, 0, 0, 0, 0, 0, 0, 0), -2);
        Cork.due("jugs of 0, ways", c.jugs(1, 1, 0, 0, 0, 0, 0, 0), 1);
        Cork.due("jugs of 20, full", c.jugs(20, 0, 20, 20, 20, 20, 20, 20), 0);
        Cork.due("jugs of 20, full, ways", c.jugs(20, 1, 20, 20, 20, 20, 20, 20), 1);
        Cork.due("jugs of 20, full, 0", c.jugs(0, 0, 20, 20, 20, 20, 20, 20), -2);
        Cork.due("jugs of 20, one full", c.jugs(0, 0, 20, 20, 20, 0, 20, 20), 0);
        Cork.due("jugs of 20, one full, ways", c.jugs(0, 1, 20, 20, 20, 0, 20, 0), 3);
        Cork.due("one of 20 into one of 19", c.jugs(19, 0, 20, 20, 19, 0, 0, 0), 1);
        Cork.due("one of 20 into one of 19, ways", c.jugs(19, 1, 20, 20, 19, 0, 0, 0), 2);
        for (int jug = 0; jug < 3; jug++) {
            int[] row = {20, 20, 20, 20, 20, 20};
            row[2 * jug] = 21;
            Cork.due("a jug above 20: " + jug, c.jugs(0, 0, row), -3);
            Cork.due("a jug above 20, ways: " + jug, c.jugs(0, 1, row), -3);
            row[2 * jug] = 19;
            Cork.due("fuller than it is big: " + jug, c.jugs(0, 0, row), -3);
            row[2 * jug + 1] = 19;
            Cork.due("as full as it is big: " + jug, c.jugs(19, 0, row), 0);
            row[2 * jug + 1] = 255;
            Cork.due("255 full: " + jug, c.jugs(0, 0, row), -3);
            row[2 * jug] = 255;
            Cork.due("255 big: " + jug, c.jugs(0, 0, row), -3);
            int[] holds = {20, 1, 20, 1, 20, 1};
            holds[2 * jug + 1] = 7;
            Cork.due("jug " + jug + " holds it", c.jugs(7, 0, holds), 0);
        }
        Cork.due("much 0, none empty", c.jugs(0, 0, 3, 1, 3, 1, 3, 1), 1);
        Cork.due("much 20 by pours", c.jugs(20, 0, 20, 10, 20, 10, 0, 0), 1);
        Cork.due("the most ways", c.jugs(0, 1, 15, 1, 19, 11, 20, 13), 55);
        Cork.due("much 20 by two pours", c.jugs(20, 0, 20, 10, 20, 5, 5, 5), 2);
    }

    /** "Each at its best in a YEAR (0 to 99), worth so much a YEAR (0 to 50)"; "-3: a YEAR above 99, a worth above 50". */
    private static void cellar() {
        Cork c = new Cork();
        Cork.due("one bottle", c.cellar(0, 100, 0, 0), 0);
        Cork.due("from 0 to 99", c.cellar(0, 100, 99, 50), 99 * 50);
        Cork.due("from 99 back to 0", c.cellar(99, 100, 0, 50), 99 * 50);
        Cork.due("which", c.cellar(99, 0, 0, 50), 0);
        Cork.due("the YEAR 100", c.cellar(99, 100, 100, 50), -3);
        Cork.due("the YEAR 100, which", c.cellar(99, 0, 100, 50), -3);
        Cork.due("the YEAR 255", c.cellar(99, 100, 255, 0), -3);
        Cork.due("worth 51", c.cellar(99, 100, 99, 51), -3);
        Cork.due("worth 255", c.cellar(99, 100, 0, 255), -3);
        int[] eight = {0, 50, 0, 50, 0, 50, 0, 50, 0, 50, 0, 50, 0, 50, 0, 50};
        Cork.due("eight from 99 on, beyond the YEAR 99", c.cellar(99, 100, eight), 50 * (8 * 99 + 28));
        Cork.due("eight, of like ones the least row", c.cellar(99, 7, eight), 7);
        eight[15] = 51;
        Cork.due("the last is worth 51", c.cellar(0, 100, eight), -3);
        eight[15] = 50;
        eight[14] = 100;
        Cork.due("the last is of the YEAR 100", c.cellar(0, 100, eight), -3);
        eight[14] = 0;
        eight[15] = 0;
        Cork.due("the one of no worth is last", c.cellar(0, 7, eight), 7);
        Cork.due("a YEAR may be above 50", c.cellar(51, 100, 51, 50), 0);
        Cork.due("the YEAR of a later one may be above 50", c.cellar(98, 100, 0, 0, 99, 50), 0);
        Cork.due("the worth of a later one may not", c.cellar(98, 100, 0, 0, 99, 51), -3);
        c.feed(5, 1, 6, 1, 7, 1, 255, 255);
        Cork.due("three by six bytes", c.x.cellar(3, 5, 100), 0);
        c.feed(5, 1, 6, 1, 100, 1, 0, 0);
        Cork.due("the third by the fifth byte", c.x.cellar(3, 5, 100), -3);
        c.feed(5, 1, 6, 1, 7, 51, 0, 0);
        Cork.due("the third by the sixth byte", c.x.cellar(3, 5, 100), -3);
        Cork.due("two of no worth: the least row", c.cellar(0, 0, 99, 0, 0, 0), 0);
        Cork.due("two of no worth: then the other", c.cellar(0, 1, 99, 0, 0, 0), 1);
    }

    /** "1 to 10 corks, each so hard (0 to 9), .. so much hardness in all (0 to 99)"; "-3: one above 9". */
    private static void wear() {
        Cork c = new Cork();
        Cork.due("a cork of 0, good for 0", c.wear(0, 0, 0), 1);
        Cork.due("a cork of 0, worth", c.wear(0, 1, 0), 0);
        Cork.due("a cork of 1, good for 0", c.wear(0, 0, 1), 0);
        Cork.due("a cork of 9, good for 8", c.wear(8, 0, 9), 0);
        Cork.due("a cork of 9, good for 9", c.wear(9, 0, 9), 1);
        Cork.due("a cork of 9, worth", c.wear(9, 1, 9), 81);
        Cork.due("a cork of 10", c.wear(99, 0, 10), -3);
        Cork.due("a cork of 255", c.wear(99, 1, 255), -3);
        int[] ten = {9, 9, 9, 9, 9, 9, 9, 9, 9, 9};
        Cork.due("ten of 9, good for 89", c.wear(89, 0, ten), 9);
        Cork.due("ten of 9, good for 90", c.wear(90, 0, ten), 10);
        Cork.due("ten of 9, good for 99", c.wear(99, 1, ten), 810);
        Cork.due("ten of 9, good for 0", c.wear(0, 0, ten), 0);
        ten[9] = 10;
        Cork.due("the last is 10", c.wear(99, 0, ten), -3);
        Cork.due("ten of 0, good for 0", c.wear(0, 0, new int[10]), 10);
    }

    /** "UNDONE: true; false: none was KEPT"; "as they were KEPT last". */
    private static void keepAndUndo() {
        Cork c = new Cork();
        Cork.due("none was KEPT", c.x.undo(), false);
        Cork.due("keep of nothing", c.x.keep(), 0);
        Cork.due("undo of nothing", c.x.undo(), true);
        Cork.due("undo again", c.x.undo(), true);
        c.witness(0, "61c60a59b");
        c.law("d1(1=1);f19(1=1);x(k=1)");
        c.draw(0, "spo");
        Cork.due("keep", c.x.keep(), 2);
        c.draw(0, "o");
        Cork.due("keep in its place", c.x.keep(), 3);
        c.witness(1, "61c");
        c.draw(1, "9p");
        c.x.screw(0);
        c.x.seed(0);
        Cork.due("undo", c.x.undo(), true);
        Cork.due("CONFESSED as KEPT last", c.x.count(0), 3);
        Cork.due("OUT as KEPT last", c.x.witnessIs(0, 1), 3);
        Cork.due("SCREW", c.x.count(4), 99);
        Cork.due("BROKEN no more", c.x.count(2), 0);
        Cork.due("told still", c.x.count(1), 3);
        Cork.due("RULES still", c.x.count(5), 3);
        Cork.due("X", c.x.count(7) != 0, true);
        Cork more = new Cork();
        more.witness(0, "61c60a59b");
        more.law("d1(1=1)");
        more.draw(0, "po");
        Cork.due("keep of one", more.x.keep(), 1);
        more.draw(0, "2o");
        Cork.due("CONFESSED ahead of undo", more.x.count(0), 3);
        more.x.undo();
        Cork.due("CONFESSED goes back", more.x.count(0), 1);
        Cork.due("OUT goes back", more.x.witnessIs(0, 1), 1);
        Cork.due("OPEN stays", more.x.witnessIs(0, 5), 1);
        Cork late = new Cork();
        late.x.keep();
        late.witness(11, "61c60a59b");
        late.law("g9(c>7);f5(1=1);d2(1=1)");
        late.draw(11, "sppo");
        Cork.due("told behind keep: OUT", late.x.witnessIs(11, 1), 2);
        late.x.undo();
        int[] first = {3, 0, 0, 9, 0, 0, 0, 59, 61, 7};
        for (int what = 0; what < first.length; what++) {
            Cork.due("told behind keep, undone: " + what, late.x.witnessIs(11, what), first[what]);
        }
        late.draw(11, "2t");
        late.x.undo();
        Cork.due("told behind keep, undone: TURNS", late.x.witnessIs(11, 4), 0);
        Cork broken = new Cork();
        broken.witness(0, "61c");
        broken.law("x(1=1)");
        broken.draw(0, "5p");
        broken.x.keep();
        broken.witness(0, "70a");
        Cork.due("told anew: not BROKEN", broken.x.witnessIs(0, 6), 0);
        broken.x.undo();
        Cork.due("undone: BROKEN", broken.x.witnessIs(0, 6), 1);
        Cork.due("undone: CORK", broken.x.witnessIs(0, 3), 0);
        Cork.due("undone: LAYERS as told now", broken.x.layerIs(0, 0, 0), 70);
        broken.feed("61c");
        broken.x.keep();
        broken.x.undo();
        Cork.due("the tape is not KEPT", broken.x.count(6), 20);
    }

    /** "LAYERS stay as told now; OUT no more than there are". */
    private static void undoneOut() {
        for (int layers = 1; layers <= 6; layers++) {
            Cork c = new Cork();
            c.witness(11, "*861c");
            c.law("d4(1=1)");
            c.draw(11, "po");
            c.x.keep();
            c.witness(11, "60a".repeat(layers));
            c.x.undo();
            Cork.due("OUT of " + layers, c.x.witnessIs(11, 1), Math.min(4, layers));
            Cork.due("LAYERS left of " + layers, c.x.count(8), Math.max(0, layers - 4));
            Cork.due("the YEAR left of " + layers, c.x.witnessIs(11, 7), layers > 4 ? 60 : -2);
            c.witness(11, "*861c");
            c.x.undo();
            Cork.due("OUT as KEPT", c.x.witnessIs(11, 1), 4);
        }
    }

    /** "By the first n bytes of the tape (0 to 12; ..; of WITNESSES that are not told 255)". */
    private static void check() {
        Cork c = new Cork();
        Cork.due("n 0, an empty tape", c.x.check(0), -1);
        c.feed(9);
        Cork.due("n 0", c.x.check(0), -1);
        Cork.due("n 0: the tape then", c.x.count(6), 0);
        int[] twelve = new int[12];
        Arrays.fill(twelve, 255);
        Cork.due("n 12, nobody told", c.check(twelve), -1);
        twelve[11] = 254;
        Cork.due("n 12, the last not so", c.check(twelve), 11);
        twelve[11] = 0;
        Cork.due("n 12, the last is not told", c.check(twelve), 11);
        c.witness(11, "*8(61c60a59b)");
        Cork.due("n 12, the last is told", c.check(twelve), -1);
        twelve[11] = 255;
        Cork.due("n 12, the last is told, and not 255", c.check(twelve), 11);
        c.law("d9(1=1)");
        c.draw(11, "p3o");
        twelve[11] = 24;
        Cork.due("24 are OUT", c.check(twelve), -1);
        twelve[11] = 23;
        Cork.due("not 23", c.check(twelve), 11);
        twelve[0] = 0;
        Cork.due("the first that is not so", c.check(twelve), 0);
        c.feed(255, 0);
        Cork.due("n 1 of more bytes", c.x.check(1), -1);
    }

    private static void counts() {
        Cork c = new Cork();
        for (int k = 0; k < 12; k++) {
            c.witness(k, "*8(61c60a59b)");
        }
        Cork.due("all told", c.x.count(1), ALL);
        c.law("d9(1=1)");
        for (int k = 0; k < 12; k++) {
            c.draw(k, "p3o");
        }
        Cork.due("all OPEN", c.x.count(3), ALL);
        Cork.due("all came", c.x.count(0), 288);
        Cork.due("none left", c.x.count(8), 0);
        Cork.due("heard nothing", c.x.heard(0, 0), 0);
        Cork.due("heard none", c.x.heard(1, 0), -2);
    }

    /** "An object is used for at most 512 calls after it has been made". */
    private static void manyCalls() {
        CorkConfessions x = new CorkConfessions();
        for (int call = 1; call <= 511; call++) {
            x.screw(call % 100);
        }
        Cork.due("the 512th call", x.count(4), 511 % 100);
    }
}
