/** Promises 11 heard, 12 agree, 13 atOdds, 14 years, 15 peak, 16 who. */
public final class StoriesTest {
    public static void main(String[] args) {
        heard();
        agree();
        atOdds();
        years();
        peak();
        who();
        Cork.finish("StoriesTest");
    }

    private static void heard() {
        Cork c = new Cork();
        Cork.due("nothing to hear", c.x.heard(0, 0), 0);
        Cork.due("by none", c.x.heard(0, 1), 0);
        Cork.due("nobody told", c.x.heard(1, 0), -2);
        c.witness(0, "61a61b");
        c.witness(1, "61b61c");
        c.witness(2, "61c61d");
        c.witness(3, "61a61d");
        c.witness(11, "61p");
        Cork.due("a", c.x.heard(1, 1), 1);
        Cork.due("b", c.x.heard(2, 0), 1);
        Cork.due("c: of like ones the least bits", c.x.heard(4, 1), 2);
        Cork.due("a b c d", c.x.heard(15, 0), 2);
        Cork.due("a b c d: 0 and 2", c.x.heard(15, 1), 5);
        Cork.due("a c", c.x.heard(5, 1), 3);
        Cork.due("b d", c.x.heard(10, 1), 5);
        Cork.due("p", c.x.heard(32768, 1), 2048);
        Cork.due("all that are", c.x.heard(32783, 0), 3);
        Cork.due("e", c.x.heard(16, 0), -2);
        Cork.due("e, which", c.x.heard(17, 1), -2);
        c.law("d1(1=1)");
        c.draw(0, "po");
        Cork.due("LAYERS left alone", c.x.heard(1, 1), 8);
        Cork.due("a b c d then", c.x.heard(15, 1), 8 | 2);
        Cork.due("sins -1", c.x.heard(-1, 0), -1);
        Cork.due("sins 65536", c.x.heard(65536, 0), -1);
        Cork.due("sins 65535", c.x.heard(65535, 0), -2);
        Cork.due("what 2", c.x.heard(0, 2), -1);
        Cork.due("what -1", c.x.heard(0, -1), -1);
        Cork all = new Cork();
        for (int k = 0; k < 12; k++) {
            all.witness(k, "61" + (char) ('a' + k));
        }
        Cork.due("all twelve", all.x.heard(4095, 0), 12);
        Cork.due("all twelve, which", all.x.heard(4095, 1), 4095);
        all.witness(11, "61a61b61c61d61e61f61g61h61i61j61k61l");
        Cork.due("the last alone", all.x.heard(4095, 1), 2048);
        all.witness(0, "61a61b61c61d61e61f61g61h61i61j61k61l");
        all.law("d0(1=1);x(1=1)");
        all.draw(0, "5p");
        Cork.due("a BROKEN one is heard, too", all.x.heard(4095, 1), 1);
    }

    private static void agree() {
        Cork c = new Cork();
        c.witness(0, "61a60b59c58d57e");
        c.witness(1, "60b61a59c57e58d");
        c.witness(2, "61b60c59a");
        c.witness(3, "*861a(*860b)*861a");
        c.witness(4, "*561a*960b*761a");
        Cork.due("0 1", c.x.agree(0, 1), 3);
        Cork.due("1 0", c.x.agree(1, 0), 3);
        Cork.due("YEAR and SIN must both be the same", c.x.agree(0, 2), 0);
        Cork.due("with himself", c.x.agree(3, 3), 24);
        Cork.due("3 4", c.x.agree(3, 4), 5 + 8 + 7);
        Cork.due("0 3", c.x.agree(0, 3), 2);
        c.law("d9(1=1)");
        c.draw(0, "p9o");
        Cork.due("those OUT, too", c.x.agree(0, 1), 3);
        Cork.due("not told", c.x.agree(0, 5), -1);
        Cork.due("not told ahead", c.x.agree(5, 0), -1);
        Cork.due("k 12", c.x.agree(12, 0), -1);
        Cork.due("l -1", c.x.agree(0, -1), -1);
    }

    private static void atOdds() {
        Cork c = new Cork();
        c.witness(0, "61a61b60c59d00p");
        c.witness(1, "61c61d60c59e58f00a");
        c.witness(2, "61p61b59a99p");
        c.witness(3, "98p");
        Cork.due("0 1", c.x.atOdds(0, 1), 3);
        Cork.due("1 0", c.x.atOdds(1, 0), 3);
        Cork.due("0 2", c.x.atOdds(0, 2), 1);
        Cork.due("2 1", c.x.atOdds(2, 1), 2);
        Cork.due("no YEAR of both", c.x.atOdds(0, 3), 0);
        Cork.due("with himself", c.x.atOdds(0, 0), 0);
        c.law("d9(1=1)");
        c.draw(0, "p9o");
        Cork.due("those OUT, too", c.x.atOdds(0, 1), 3);
        Cork.due("not told", c.x.atOdds(0, 4), -1);
        Cork.due("not told ahead", c.x.atOdds(4, 0), -1);
        Cork.due("k 12", c.x.atOdds(12, 0), -1);
        Cork.due("l -1", c.x.atOdds(0, -1), -1);
    }

    private static void years() {
        Cork c = new Cork();
        Cork.due("none", c.x.years(1, 0), 0);
        Cork.due("none, the first", c.x.years(1, 1), -2);
        c.witness(0, "61a61b60c99d");
        c.witness(1, "60c00a");
        c.witness(11, "60c61c");
        Cork.due("of one", c.x.years(1, 0), 4);
        Cork.due("of one, the first", c.x.years(1, 1), 0);
        Cork.due("of two", c.x.years(2, 0), 2);
        Cork.due("of two, the first", c.x.years(2, 1), 60);
        Cork.due("of three", c.x.years(3, 0), 1);
        Cork.due("of four", c.x.years(4, 0), 0);
        Cork.due("of four, the first", c.x.years(4, 1), -2);
        Cork.due("of twelve", c.x.years(12, 0), 0);
        c.law("d2(1=1)");
        c.draw(0, "po");
        Cork.due("LAYERS left alone", c.x.years(2, 0), 1);
        Cork.due("m 0", c.x.years(0, 0), -1);
        Cork.due("m 13", c.x.years(13, 0), -1);
        Cork.due("what 2", c.x.years(1, 2), -1);
        Cork.due("what -1", c.x.years(1, -1), -1);
    }

    private static void peak() {
        Cork c = new Cork();
        Cork.due("none left", c.x.peak(0), -2);
        Cork.due("none left, how many", c.x.peak(1), 0);
        c.witness(0, "61a60c60c99d");
        c.witness(1, "61c00a");
        Cork.due("of like ones the lowest", c.x.peak(0), 60);
        Cork.due("how many", c.x.peak(1), 2);
        c.witness(2, "*399p");
        Cork.due("the YEAR 99", c.x.peak(0), 99);
        Cork.due("how many of it", c.x.peak(1), 4);
        c.law("d9(1=1)");
        c.draw(2, "po");
        Cork.due("LAYERS left alone", c.x.peak(0), 60);
        c.draw(0, "po");
        c.draw(1, "po");
        Cork.due("none left then", c.x.peak(0), -2);
        c.witness(3, "*200b99a");
        Cork.due("the YEAR 0", c.x.peak(0), 0);
        Cork.due("what 2", c.x.peak(2), -1);
        Cork.due("what -1", c.x.peak(-1), -1);
    }

    private static void who() {
        Cork c = new Cork();
        Cork.due("nobody", c.x.who(0), 0);
        c.witness(0, "61a60p");
        c.witness(5, "61p");
        c.witness(11, "61p60a");
        Cork.due("a", c.x.who(0), 1 | 1 << 11);
        Cork.due("p", c.x.who(15), 1 | 1 << 5 | 1 << 11);
        Cork.due("b", c.x.who(1), 0);
        c.law("d1(1=1)");
        c.draw(0, "po");
        Cork.due("LAYERS left alone", c.x.who(0), 1 << 11);
        Cork.due("sin 16", c.x.who(16), -1);
        Cork.due("sin -1", c.x.who(-1), -1);
    }
}
