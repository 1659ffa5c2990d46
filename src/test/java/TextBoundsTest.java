/** The bounds of the three texts: WITNESS, DRAWING, THE LAW; what is taken last and what is not taken first. */
public final class TextBoundsTest {
    public static void main(String[] args) {
        witnessLength();
        witnessSigns();
        witnessRounds();
        witnessMost();
        witnessInPlace();
        drawingLength();
        drawingSigns();
        drawingRounds();
        drawingMost();
        lawLength();
        lawSigns();
        lawNumbers();
        lawRules();
        lawOpen();
        lawInPlace();
        Cork.finish("TextBoundsTest");
    }

    private static void tells(String text, int due) {
        Cork c = new Cork();
        Cork.due("witness " + text, c.witness(11, text), due);
        Cork.due("told then " + text, c.x.count(1), due < 0 ? 0 : 1 << 11);
    }

    private static void draws(String text, int due) {
        Cork c = new Cork();
        c.witness(0, "61c");
        Cork.due("tried " + text, c.tried(0, text, 0), due);
        Cork.due("draw " + text, c.draw(0, text), due);
        Cork.due("X then " + text, c.x.count(7) == 1, due < 0);
    }

    private static void rules(String text, int due) {
        Cork c = new Cork();
        Cork.due("law " + text, c.law(text), due);
        Cork.due("RULES then " + text, c.x.count(5), Math.max(0, due));
    }

    private static String sign(int number) {
        return String.valueOf((char) number);
    }

    /** "A TEXT of at most 80 bytes, no blanks". */
    private static void witnessLength() {
        String eight = "((61c))";
        tells(eight.repeat(11) + "60a", 12);
        Cork c = new Cork();
        String longer = eight.repeat(11) + "60a";
        Cork.due("its length", longer.length(), 80);
        c.feed(longer + "59b");
        Cork.due("81 of 100 bytes", c.x.witness(0, 81), -1);
        Cork.due("80 of 100 bytes", c.x.witness(0, 80), 12);
        c.feed("61c");
        Cork.due("one byte", c.x.witness(0, 1), -1001);
        tells(" 61c", -1000);
        tells("6 1c", -1001);
        tells("61 c", -1002);
        tells("61c ", -1003);
        tells("* 261c", -1001);
        tells("*2 61c", -1002);
        tells("( 61c)", -1001);
        tells("(61c )", -1004);
    }

    /** "A YEAR of two digits, then a letter a to p, ahead of it perhaps * (42) and a digit 2 to 9". */
    private static void witnessSigns() {
        tells("00a", 1);
        tells("99p", 1);
        tells("/0a", -1000);
        tells(":0a", -1000);
        tells("0/a", -1001);
        tells("0:a", -1001);
        tells("00" + sign('a' - 1), -1002);
        tells("00q", -1002);
        tells("00A", -1002);
        tells("000a", -1002);
        tells("*100a", -1001);
        tells("*000a", -1001);
        tells("*200a", 2);
        tells("*900a", 9);
        tells("*:00a", -1001);
        tells("*1000a", -1001);
        tells("*2200a", -1004);
        tells("+200a", -1000);
        tells(")200a", -1000);
        tells("200a", -1002);
        tells(sign('0' + 128) + "0a", -1000);
        tells("00" + sign('a' + 128), -1002);
        tells(sign(0), -1000);
        tells(sign(255), -1000);
        tells("00a" + sign(0), -1003);
        for (int sin = 0; sin < 16; sin++) {
            tells("42" + sign('a' + sin), 1);
        }
        Cork c = new Cork();
        c.witness(0, "00a99p");
        Cork.due("the YEAR 0", c.x.layerIs(0, 0, 0), 0);
        Cork.due("the SIN 0", c.x.layerIs(0, 0, 1), 0);
        Cork.due("the YEAR 99", c.x.layerIs(0, 1, 0), 99);
        Cork.due("the SIN 15", c.x.layerIs(0, 1, 1), 15);
    }

    /** "(LAYERS), ahead of it perhaps * and a digit 2 to 9"; "5 a third ( that is open in another one, at it". */
    private static void witnessRounds() {
        tells("(00a)", 1);
        tells("()", -1001);
        tells("*2()", -1003);
        tells("(00a)()", -1006);
        tells("*1(00a)", -1001);
        tells("*2(00a)", 2);
        tells("*9(00a)", 9);
        tells("((00a))", 1);
        tells("(((00a)))", -5002);
        tells("((00a(", -5005);
        tells("((00a*2(", -5007);
        tells("*2(*2(*2(00a)))", -5008);
        tells("*2(*2(*1(00a)))", -1007);
        tells("((00a)(00a))((00a)(00a))", 4);
        tells("((00a))(((", -5009);
        tells("(", -1001);
        tells("((", -1002);
        tells("(((", -5002);
        tells("(00a", -1004);
        tells("((00a)", -1006);
        tells("(00a))", -1005);
        tells(")", -1000);
        tells("00a)", -1003);
        tells("*", -1001);
        tells("*2", -1002);
        tells("*2)", -1002);
        tells("*2*200a", -1002);
    }

    /** "6 more than 24 LAYERS, at the first byte of what (or its *) by which they are (asked when it ends; ..)". */
    private static void witnessMost() {
        tells("00a".repeat(24), 24);
        tells("00a".repeat(25), -6072);
        tells("*900a*900a*600a", 24);
        tells("*900a*900a*700a", -6010);
        tells("*900a*900a*500a00b", 24);
        tells("*900a*900a*600a00b", -6015);
        tells("*8(00a01b02c)", 24);
        tells("*9(00a01b02c)", -6000);
        tells("*8(00a01b02c)03d", -6013);
        tells("*8(00a01b02c)(03d)", -6014);
        tells("*8(00a01b02c)((03d))", -6015);
        tells("03d*8(00a01b02c)", -6003);
        tells("*4(*600a)", 24);
        tells("*5(*500a)", -6000);
        tells("*4(*2(*300a))", 24);
        tells("*5(*2(*300a))", -6000);
        tells("*2(*4(*700a))", -6003);
        tells("(*4(*700a))", -6001);
        tells("(*4(*700a)", -6001);
        tells("*5(*500a", -1008);
        tells("*5(*500ax", -1008);
        tells("*5(*500a)x", -6000);
        tells("*900a*900a*700ax", -6010);
        tells("*900a*900a*700", -1014);
        tells("*900a*900a*700q", -1014);
        tells("*900a*900a*2(*300a)", 24);
        tells("*900a*900a*2(*400a)", -6010);
        tells("*9(*9(*900a))", -6003);
        Cork c = new Cork();
        c.witness(0, "*4(*523a42p)");
        Cork.due("LAYERS", c.x.witnessIs(0, 0), 24);
        Cork.due("the 23rd", c.x.layerIs(0, 22, 0), 23);
        Cork.due("the 24th", c.x.layerIs(0, 23, 0), 42);
        Cork.due("the 25th", c.x.layerIs(0, 24, 0), -1);
    }

    /** "In place of the one before: FIZZ, TURNS, OUT 0, CORK 9, not OPEN, not BROKEN." */
    private static void witnessInPlace() {
        Cork c = new Cork();
        c.witness(0, "61c60a59b");
        c.law("f7(1=1);d1(1=1);g9(k=1)");
        c.witness(1, "61c");
        c.draw(0, "spo");
        c.draw(1, "s3t9p");
        Cork.due("OUT", c.x.witnessIs(0, 1), 1);
        Cork.due("BROKEN", c.x.count(2), 2);
        c.witness(0, "70a");
        c.witness(1, "70a71b");
        int[] due = {0, 0, 0, 9, 0, 0, 0};
        for (int k = 0; k < 2; k++) {
            Cork.due("LAYERS", c.x.witnessIs(k, 0), k + 1);
            for (int what = 1; what < 7; what++) {
                Cork.due("told anew " + k + ", what " + what, c.x.witnessIs(k, what), due[what]);
            }
        }
        Cork.due("CONFESSED stays", c.x.count(0), 1);
        Cork.due("SCREW stays", c.x.count(4), 96);
        Cork.due("OPEN ones", c.x.count(3), 0);
        Cork.due("BROKEN ones", c.x.count(2), 0);
        Cork.due("LAYERS left", c.x.count(8), 3);
        Cork.due("no second LAYER of the one before", c.x.layerIs(0, 1, 0), -1);
    }

    /** "A TEXT of at most 60 bytes, no blanks". */
    private static void drawingLength() {
        draws("b".repeat(60), 0);
        Cork c = new Cork();
        c.witness(0, "61c");
        c.feed("b".repeat(80));
        Cork.due("draw 61 of 80 bytes", c.x.draw(0, 61), -1);
        Cork.due("draw 60 of 80 bytes", c.x.draw(0, 60), 0);
        c.feed("b".repeat(80));
        Cork.due("tried 61 of 80 bytes", c.x.tried(0, 61, 0), -1);
        Cork.due("tried 60 of 80 bytes", c.x.tried(0, 60, 0), 0);
        draws("b", 0);
        draws(" b", -1000);
        draws("b ", -1001);
        draws("2 b", -1001);
        draws("( b)", -1001);
        draws("(b )", -1002);
    }

    private static void drawingSigns() {
        String letters = "tpsboc";
        for (int number = 0; number < 256; number++) {
            boolean stands = letters.indexOf(number) >= 0;
            boolean ahead = number >= '2' && number <= '9' || number == '(';
            draws(sign(number), stands ? 0 : ahead ? -1001 : -1000);
            if (!ahead) {
                draws("3" + sign(number), stands ? 0 : -1001);
            }
        }
        draws("0t", -1000);
        draws("1t", -1000);
        draws("2t", 0);
        draws("9t", 0);
        draws(":t", -1000);
        draws("/t", -1000);
        draws("10t", -1000);
        draws("22t", -1001);
    }

    private static void drawingRounds() {
        draws("(t)", 0);
        draws("()", -1001);
        draws("2()", -1002);
        draws("1(t)", -1000);
        draws("2(t)", 0);
        draws("9(t)", 0);
        draws("((t))", 0);
        draws("(((t)))", -5002);
        draws("2(2(2(t)))", -5005);
        draws("2(2(1(t)))", -1004);
        draws("((t(", -5003);
        draws("((t)(t))((t)(t))", 0);
        draws("(", -1001);
        draws("((", -1002);
        draws("(((", -5002);
        draws("(t", -1002);
        draws("((t)", -1004);
        draws("(t))", -1003);
        draws(")", -1000);
        draws("t)", -1001);
        draws("2", -1001);
        draws("2)", -1001);
        draws("(2)", -1002);
    }

    /** "96 DEEDS at most in all"; "6 more than 96, likewise (at the digit, if it has one)". */
    private static void drawingMost() {
        draws("9b9b9b9b9b9b9b9b9b9b6b", 0);
        draws("9b9b9b9b9b9b9b9b9b9b7b", -6020);
        draws("9b9b9b9b9b9b9b9b9b9b6bb", -6022);
        draws("9b9b9b9b9b9b9b9b9b9b5bb", 0);
        draws("8(3(4b))", 0);
        draws("9(3(4b))", -6000);
        draws("8(3(4b))b", -6008);
        draws("8(3(4b))(b)", -6009);
        draws("b8(3(4b))", -6001);
        draws("8(6(2b))", 0);
        draws("8(6(2b)b)", -6000);
        draws("9(9b)9b6b", 0);
        draws("9(9b)9b7b", -6007);
        draws("9(9b)9b2(3b)", 0);
        draws("9(9b)9b2(4b)", -6007);
        draws("9(9b)9b(7b)", -6008);
        draws("9(9b)9b2(4b", -1011);
        draws("9(9b)9b7", -1008);
        draws("9(9b)9b7x", -1008);
        draws("9(9b)9b7bx", -6007);
        draws("9(9b)9b6bx", -1009);
        draws("9(9(9b))", -6000);
        draws("(9(9b)9(2b))", -6006);
        draws("9(9(9b)", -1007);
        Cork c = new Cork();
        c.witness(0, "61c");
        c.law("fi-94(1=1)");
        Cork.due("the last DEED is the 95th, from 0 on", c.tried(0, "8(3(4s))", 2), 1);
    }

    /** "A TEXT of at most 240 bytes, no blanks (none at first)". */
    private static void lawLength() {
        Cork c = new Cork();
        Cork.due("none at first", c.x.count(5), 0);
        String text = Twins.lawOf(240);
        Cork.due("its length", text.length(), 240);
        c.feed(text + ";x(1=1)");
        Cork.due("241 of 260 bytes", c.x.law(241), -1);
        Cork.due("240 of 260 bytes", c.x.law(240), 1);
        c.feed(text);
        Cork.due("240 of 240 bytes", c.x.law(240), 1);
        c.feed(text);
        Cork.due("239 of 240 bytes: the end", c.x.law(239), -1239);
        rules(text.substring(0, 239) + "(", -1239);
        rules("x", -1001);
        rules(" x(1=1)", -1000);
        rules("x (1=1)", -1001);
        rules("x( 1=1)", -1002);
        rules("x(1 =1)", -1003);
        rules("x(1= 1)", -1004);
        rules("x(1=1 )", -1005);
        rules("x(1=1) ", -1006);
        rules("x(1=1); x(1=1)", -1007);
        rules("g1 (1=1)", -1002);
        rules("g1 2(1=1)", -1002);
    }

    private static void lawSigns() {
        for (int number = 0; number < 256; number++) {
            String sign = sign(number);
            boolean letter = "gfadx".indexOf(number) >= 0;
            rules(sign, letter ? -1001 : -1000);
            rules(sign + "1(1=1)", !letter ? -1000 : number == 'x' ? -1001 : 1);
            boolean known = "knzcuysiw".indexOf(number) >= 0;
            boolean digit = number >= '0' && number <= '9';
            rules("g" + sign + "(1=1)", known || digit ? 1 : number == '[' ? -1002 : -1001);
            rules("x(1" + sign + "1)", digit ? -1005
                : "<>=".indexOf(number) >= 0 ? 1 : "+-*/%".indexOf(number) >= 0 ? -1005 : -1003);
            rules("x(1=1" + sign + "1=1)", digit || "+-*/%".indexOf(number) >= 0 ? -1007
                : "&|".indexOf(number) >= 0 ? 1 : number == ')' ? -1006 : -1005);
        }
        rules("g(1=1)", -1001);
        rules("x1(1=1)", -1001);
        rules("x(1=1)(1=1)", -1006);
        rules("x()", -1002);
        rules("g[](1=1)", -1002);
        rules("x(!)", -1003);
        rules("x(1<=1)", -1004);
        rules("x(1==1)", -1004);
        rules("x(-1=1)", -1002);
        rules("x(1=1&)", -1006);
        rules("x(1=1&&1=1)", -1006);
        rules("x(&1=1)", -1002);
        rules("x((1=1)", -1007);
        rules("x(1=1", -1005);
        rules("x(1=", -1004);
        rules("x(1", -1003);
        rules("x(", -1002);
        rules("x(1=1);", -1007);
        rules(";x(1=1)", -1000);
        rules("x(1=1);;x(1=1)", -1007);
    }

    /** "A number of one to five digits"; "2 a sixth digit, at it". */
    private static void lawNumbers() {
        rules("g1(1=1)", 1);
        rules("g12345(1=1)", 1);
        rules("g99999(1=1)", 1);
        rules("g123456(1=1)", -2006);
        rules("g000001(1=1)", -2006);
        rules("g1234567(1=1)", -2006);
        rules("g123456", -2006);
        rules("g12345", -1006);
        rules("g12345x", -1006);
        rules("g1+123456(1=1)", -2008);
        rules("g[123456](1=1)", -2007);
        rules("x(123456=1)", -2007);
        rules("x(1=123456)", -2009);
        rules("x(12345=12345)", 1);
        rules("x(1=1);g123456", -2013);
        rules("x(1=1;g123456", -1005);
    }

    /** "RULES (16 at most) with a ; between two"; "4 a 17th RULE, at its letter (if that can stand there)". */
    private static void lawRules() {
        String rule = "x(1=1);";
        for (int many = 1; many <= 16; many++) {
            rules(rule.repeat(many).substring(0, 7 * many - 1), many);
        }
        String sixteen = rule.repeat(16);
        rules(sixteen, -1112);
        for (int number = 0; number < 256; number++) {
            rules(sixteen + sign(number), "gfadx".indexOf(number) >= 0 ? -4112 : -1112);
        }
        rules(sixteen + "x(1=1)", -4112);
        rules(sixteen + "g(", -4112);
        rules(rule.repeat(15) + "g1(1=1)", 16);
        rules(rule.repeat(15) + "g(", -1106);
        rules("x(1=1);g12345(k<2)" + ";d1(1=1)".repeat(14), 16);
    }

    /** "5 a seventh of ( [ ! that are open in one another, at it (the ( of the RULE counts; ..)". */
    private static void lawOpen() {
        rules("x((((((1=1))))))", 1);
        rules("x(((((((1=1)))))))", -5007);
        rules("x(!!!!!1=1)", 1);
        rules("x(!!!!!!1=1)", -5007);
        rules("x([[[[[1]]]]]=1)", 1);
        rules("x([[[[[[1]]]]]]=1)", -5007);
        rules("x(1=[[[[[1]]]]])", 1);
        rules("x(1=[[[[[[1]]]]]])", -5009);
        rules("x(!(!(![1]=1)))", -5007);
        rules("x(!(!([1]=1)))", 1);
        rules("x(!(!(!(1=1))))", -5007);
        rules("x(!(!(!1=1)))", 1);
        rules("g[[[[[[1]]]]]](1=1)", 1);
        rules("g[[[[[[[1]]]]]]](1=1)", -5007);
        rules("g[[[[[[1]]]]]]+[[[[[[1]]]]]]((((((1=1))))))", 1);
        rules("g[[[[[[1]+[2]]]]]](1=1)", 1);
        rules("g[[[[[[1+[2]]]]]]](1=1)", -5009);
        rules("x(!!!!!1=1&!!!!!1=1|!!!!!1=1)", 1);
        rules("x(!!!!1=1&!!!!!!1=1)", -5015);
        rules("x(!!!!(1=1)&!!!!(1=1))", 1);
        rules("x(!!!!(1=1&!1=1))", -5011);
        rules("x(!!!!([1]=1))", -5007);
        rules("x(!!!!!1=[1])", -5009);
        rules("x(!!!!1=[1])", 1);
        rules("x((((((1=1))))));x(((((((", -5024);
        rules("x((((((1=1)))))", -1015);
        rules("x((((((1=1)))))))", -1016);
        rules("x(((((([", -5007);
        rules("x((((((!", -5007);
        rules("x((((((", -1007);
        rules("x((((((1(", -1008);
        rules("x((((((1[", -1008);
        rules("x((((((1!", -1008);
        rules("x((((((1=(", -1009);
        rules("x((((((1=!", -1009);
        rules("x((((((1=[", -5009);
        rules("g[[[[[[(", -1007);
        rules("g[[[[[[!", -1007);
        rules("g[[[[[[[", -5007);
    }

    /** "In place of the one before"; "a FAULT .. (the one before stays)". */
    private static void lawInPlace() {
        Cork c = new Cork();
        c.witness(0, "*561c");
        c.law("d1(1=1);d2(1=1);x(1=2)");
        Cork.due("RULES", c.x.count(5), 3);
        Cork.due("d", c.tried(0, "po", 0), 1);
        Cork.due("a FAULT behind three good RULES", c.law("d3(1=1);d3(1=1);x(1=1);d"), -1024);
        Cork.due("RULES stay", c.x.count(5), 3);
        Cork.due("d stays", c.tried(0, "po", 0), 1);
        Cork.due("in place of it", c.law("f5(1=1)"), 1);
        Cork.due("RULES", c.x.count(5), 1);
        Cork.due("no d then", c.tried(0, "po", 0), 0);
        Cork.due("no x then", c.tried(0, "p", 5), 1);
    }
}
