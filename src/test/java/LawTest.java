/** Promise 4 law: its text, its FAULTS, and what it reckons (seen through tried). */
public final class LawTest {
    public static void main(String[] args) {
        read();
        faults();
        depths();
        tooManyRules();
        refused();
        reckoned();
        divided();
        asMuchAsMatters();
        firstRule();
        known();
        Cork.finish("LawTest");
    }

    private static void reads(String text, int due) {
        Cork c = new Cork();
        Cork.due("law " + text, c.law(text), due);
        Cork.due("RULES after " + text, c.x.count(5), Math.max(0, due));
        Cork.due("tape after " + text, c.x.count(6), 0);
    }

    private static void read() {
        reads("g5(k=0)", 1);
        reads("x(z>1)", 1);
        reads("g5(k=0);x(z>1);f3(c=1);a2(u=0);d1(1=1)", 5);
        reads("gk+n*z-c/u%y(s<i&!w=k|(n>z))", 1);
        reads("d[1+2]*[3-[4]](!(k=0)&[n]>1)", 1);
        reads("g00001(12345=99999)", 1);
        Cork c = new Cork();
        c.law("g1(1=1);g2(1=1)");
        Cork.due("a law in place of the one before", c.law("x(1=1)"), 1);
        Cork.due("RULES", c.x.count(5), 1);
        Cork.due("a FAULT", c.law("x(1=1);"), -1007);
        Cork.due("leaves the one before", c.x.count(5), 1);
        c.witness(0, "61c");
        Cork.due("which still holds", c.tried(0, "p", 3), 7);
    }

    private static void faults() {
        reads("z5(k=0)", -1000);
        reads("G5(k=0)", -1000);
        reads(";", -1000);
        reads("g", -1001);
        reads("g(k=0)", -1001);
        reads("x5(k=0)", -1001);
        reads("x", -1001);
        reads("g5", -1002);
        reads("g5;", -1002);
        reads("g5[", -1002);
        reads("g5k(k=0)", -1002);
        reads("gk5(k=0)", -1002);
        reads("g5+", -1003);
        reads("g5+(k=0)", -1003);
        reads("g-5(k=0)", -1001);
        reads("g[5(k=0)", -1003);
        reads("g[5](k=0)]", -1009);
        reads("g5()", -1003);
        reads("g5(k)", -1004);
        reads("g5(k=)", -1005);
        reads("g5(k=0=1)", -1006);
        reads("g5(k=0", -1006);
        reads("g5(k=0&)", -1007);
        reads("g5(k=0|)", -1007);
        reads("g5(k=0||k=1)", -1007);
        reads("g5(!)", -1004);
        reads("g5((k=0)=1)", -1008);
        reads("g5((k)=0)", -1005);
        reads("g5([k=0])", -1005);
        reads("g5(a=0)", -1003);
        reads("g5(k=0) ", -1007);
        reads("g5(k=0);", -1008);
        reads("g5(k=0);;", -1008);
        reads("g5(k=0)x(k=0)", -1007);
        reads("d123456(k=0)", -2006);
        reads("d12345a", -1006);
        reads("x(1+000000=1)", -2009);
        reads("x(1=1&1234567=1)", -2011);
    }

    private static void depths() {
        reads("x((((((k=0))))))", 1);
        reads("x(((((((k=0)))))))", -5007);
        reads("f[[[[[[5]]]]]](k=0)", 1);
        reads("f[[[[[[[5]]]]]]](k=0)", -5007);
        reads("f[[[[[[5]]]]]]((((((k=0))))))", 1);
        reads("x(!!!!!k=0)", 1);
        reads("x(!!!!!!k=0)", -5007);
        reads("x(!!!!!(k=0))", -5007);
        reads("x(!!!!![k]=0)", -5007);
        reads("x(!!!!!k=[0])", -5009);
        reads("x(!!!!k=[0])", 1);
        reads("x(!!!!!k=0&[k]=0)", 1);
        reads("x(!(!(!k=0&k=0)))", 1);
        reads("x((((((k=0)&(k=0))))))", 1);
        reads("x((((([k]=0)))))", 1);
        reads("x(((((([k]=0))))))", -5007);
        reads("x(((((([", -5007);
        reads("x((((((k(", -1008);
        reads("x((((((k=(", -1009);
        reads("x((((((k=0&(", -5011);
        reads("f[[[[[[5[", -1008);
    }

    private static void tooManyRules() {
        StringBuilder b = new StringBuilder("x(k=0)");
        for (int i = 1; i < 16; i++) {
            b.append(";x(k=0)");
        }
        reads(b.toString(), 16);
        reads(b + ";", -1112);
        reads(b + ";g", -4112);
        reads(b + ";x(k=0)", -4112);
        reads(b + ";k", -1112);
        StringBuilder all = new StringBuilder(b);
        all.append(")");
        reads(all.toString(), -1111);
        StringBuilder wide = new StringBuilder("g1");
        for (int i = 0; i < 116; i++) {
            wide.append("+1");
        }
        wide.append("(1=1)");
        while (wide.length() < 240) {
            wide.insert(1, '0');
        }
        reads(wide.toString(), 1);
    }

    private static void refused() {
        Cork c = new Cork();
        Cork.due("empty tape", c.x.law(1), -1);
        c.feed("x(1=1)");
        Cork.due("n 0", c.x.law(0), -1);
        Cork.due("n -5", c.x.law(-5), -1);
        Cork.due("n above the tape", c.x.law(21), -1);
        for (int i = 0; i < 12; i++) {
            c.feed("x");
        }
        Cork.due("n 241", c.x.law(241), -1);
        Cork.due("the tape stays", c.x.count(6), 260);
        Cork.due("n 6", c.x.law(6), 1);
        Cork.due("the tape is empty", c.x.count(6), 0);
    }

    /** An E is seen as the LAYERS that come by a pour of 9 (0 to 9), or as FIZZ by a shake (0 to 19). */
    private static void pours(String e, int due) {
        Cork c = new Cork();
        c.witness(7, "*961p*960b");
        c.law("d" + e + "(1=1)");
        Cork.due("d " + e, c.tried(7, "po", 0), due);
    }

    private static void breaks(String condition, boolean due) {
        Cork c = new Cork();
        c.witness(7, "*961p*960b");
        c.law("x(" + condition + ")");
        Cork.due("x " + condition, c.tried(7, "p", 5) == 0, due);
    }

    private static void reckoned() {
        pours("1+2*3", 7);
        pours("[1+2]*3", 9);
        pours("9-3-2", 4);
        pours("9-3+2", 8);
        pours("8/2*2", 8);
        pours("8/[2*2]", 2);
        pours("2*3-8/4+1", 5);
        pours("17%10/2", 3);
        pours("7-4%3*2", 5);
        pours("1+1*[1+1*[1+1*[1+1*[1+1*[1+1*[1+1*1]]]]]]", 8);
        breaks("7=1+1*[1+1*[1+1*[1+1*[1+1*[1+1*1]]]]]", true);
        breaks("1+1*[1+1*[1+1*[1+1*[1+1*[1+1*1]]]]]=7", true);
        pours("3-5", 0);
        pours("99999", 9);
        pours("0", 0);
        pours("[0-7]/2+5", 2);
        pours("[0-7]%4+5", 2);
        pours("[0-7]/[0-2]", 3);
        pours("65536*65536+3", 3);
        pours("65536*32767+65535+4-32767*65536-65535", 4);
        pours("[65536*32767+65535+1]/[0-1]+[65536*32767+65535]", 0);
        pours("[32768*65536]%[0-1]+6", 6);
        pours("[65536*32767+65535+1+1]-[65536*32768]", 1);
        breaks("65536*32767+65535+1<0", true);
        breaks("1<2", true);
        breaks("2<2", false);
        breaks("2>1", true);
        breaks("2>2", false);
        breaks("2=2", true);
        breaks("2=3", false);
        breaks("!2=3", true);
        breaks("!!2=3", false);
        breaks("1=2|1=1&1=2|2=2", true);
        breaks("1=1|1=2&1=2", true);
        breaks("[1]=1&(1=2|1=1)", true);
        breaks("(1=1|1=2)&1=2", false);
        breaks("!1=1|1=1", true);
        breaks("!1=1&1=2", false);
        breaks("!(1=1&1=2)", true);
        breaks("1=2|!1=1|!1=2", true);
        breaks("1=2&1=1|1=1&1=2|!(1=1)", false);
        Cork c = new Cork();
        c.witness(0, "61c");
        c.law("f25(1=1);a3-9(1=1);g99(1=1)");
        Cork.due("f beyond its bound", c.tried(0, "s", 2), 19);
        Cork.due("a below its bound", c.tried(0, "sb", 2), 19);
        Cork.due("g beyond its bound", c.tried(0, "9tp", 5), 1);
        c.law("g0-5(1=1)");
        Cork.due("g below its bound", c.tried(0, "p", 5), 1);
    }

    private static void divided() {
        pours("5/0", 0);
        pours("5%0", 0);
        pours("3+5/0", 0);
        pours("3+5%[k-7]", 0);
        pours("3+0/5", 3);
        breaks("1/0=0", false);
        breaks("!1/0=0", false);
        breaks("!(1/0=0)", false);
        breaks("1/0=0|1=1", false);
        breaks("1%0=0|1=1", false);
        breaks("1=2|1/0=0|1=1", false);
        Cork c = new Cork();
        c.witness(0, "*561c");
        c.law("d1/0(1=1);d3(1=1)");
        Cork.due("an E that is REFUSED is 0, no later RULE is asked", c.tried(0, "po", 0), 0);
        c.law("d1(1/0=0);d3(1=1)");
        Cork.due("a C that is REFUSED does not hold, a later RULE is asked", c.tried(0, "po", 0), 3);
        c.law("x(1/0=1);x(1=1)");
        Cork.due("any x will do", c.tried(0, "p", 5), 0);
    }

    private static void asMuchAsMatters() {
        breaks("1=1|1/0=0", true);
        breaks("1=2&1/0=0|1=1", true);
        breaks("1=1|1=1&1/0=0", true);
        breaks("1=1&1/0=0", false);
        breaks("!(1=2&1/0=0)", true);
        breaks("(1=1|1/0=0)&1=1", true);
        breaks("1=2&(1/0=0|1=1)|2=2", true);
        breaks("1=1|1=2|1/0=0", true);
        breaks("1=2&1=1&1/0=0|1=1|1/0=0", true);
    }

    private static void firstRule() {
        Cork c = new Cork();
        c.witness(0, "*961c");
        c.law("d1(k=1);f2(1=1);d2(k=0);d3(1=1)");
        Cork.due("the first of its letter that holds", c.tried(0, "po", 0), 2);
        c.law("f2(1=1)");
        Cork.due("none: 0", c.tried(0, "po", 0), 0);
        Cork.due("without an x he opens", c.tried(0, "p", 5), 1);
        c.law("x(k=1);x(k=0)");
        Cork.due("any x will do", c.tried(0, "p", 5), 0);
        c.law("x(k=1);x(k=2)");
        Cork.due("no x holds", c.tried(0, "p", 5), 1);
    }

    private static void known() {
        pours("k", 7);
        pours("n-10", 8);
        pours("y-60", 1);
        pours("s-8", 7);
        pours("i", 1);
        Cork c = new Cork();
        c.witness(7, "*961p59b");
        c.law("fi(1=1);d9(1=1);as+y+n+2(1=1)");
        Cork.due("i counts on", c.tried(7, "3t2s", 2), 7);
        Cork.due("i is of the whole row", c.tried(7, "2(ts)", 2), 4);
        Cork.due("none left: y, s, n are 0", c.tried(7, "p9(t)2s2obb", 2), 19 - 10 - 4);
        c.law("fz+1(1=1)");
        Cork.due("z", c.tried(7, "4s", 2), 15);
        c.law("fc(1=1)");
        Cork.due("c", c.tried(7, "7ts", 2), 7);
        c.law("fu(1=1)");
        Cork.due("u", c.tried(7, "4ts", 2), 4);
        // DRAWS from 1: 39022, 61087, 20196, 45005, 3882
        c.law("fw(1=1)");
        Cork.due("w, the first", c.tried(7, "s", 2), 2);
        Cork.due("w, the second", c.tried(7, "ts", 2), 7);
        Cork.due("w, the third", c.tried(7, "2ts", 2), 6);
        Cork.due("w, the fourth", c.tried(7, "3ts", 2), 5);
    }
}
