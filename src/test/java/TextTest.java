/** Promises 1 to 5: a new object, the tape, texts and their faults. */
public final class TextTest {
    private static final Check CHECK = new Check("TextTest");

    public static void main(String[] args) {
        newObject();
        tape();
        bytesOfWords();
        whatWentBack();
        tokens();
        syntax();
        roomForCounts();
        roomForWays();
        roomForTokens();
        roomForNesting();
        names();
        numbers();
        whichFaultIsFirst();
        faultChangesOnlyTheTape();
        textTakesThePlaceOfTheOneAhead();
        CHECK.end();
    }

    private static void due(String call, long got, long want) {
        CHECK.due(call, got, want);
    }

    private static void fault(String text, int number, int place) {
        WellVillages x = new WellVillages();
        Check.put(x, text);
        due("read() of <" + text + ">", x.read(), number);
        due("place() of <" + text + ">", x.place(), place);
        due("count(7) behind <" + text + ">", x.count(7), 0);
    }

    private static void good(String text) {
        fault(text, 0, -1);
    }

    private static String times(int n, String part) {
        return part.repeat(n);
    }

    private static String cells(int n) {
        StringBuilder s = new StringBuilder();
        for (int i = 0; i < n; i++) {
            s.append("cell ").append((char) ('a' + i)).append(" 1 1;");
        }
        return s.toString();
    }

    private static void newObject() {
        WellVillages x = new WellVillages();
        for (int what = 0; what <= 9; what++) {
            due("count(" + what + ") of a new object", x.count(what), 0);
        }
        due("place()", x.place(), -1);
        due("NONE", WellVillages.NONE, -1);
        due("cell(0, 0)", x.cell(0, 0), -1);
        due("village(0, 0)", x.village(0, 0), -1);
        due("parts()", x.parts(), 0);
        due("off(0)", x.off(0), -2);
        due("off(1)", x.off(1), -1);
        due("hidden(0, 3)", x.hidden(0, 3), -3);
        due("forget()", x.forget(), 0);
        due("run(0)", x.run(0), 0);
        due("run(400)", x.run(400), 400);
    }

    private static void tape() {
        WellVillages x = new WellVillages();
        due("back(0)", x.back(0), 0);
        due("back(1)", x.back(1), -1);
        due("back(-1)", x.back(-1), -1);
        for (int i = 1; i <= 100; i++) {
            due("feed " + i, x.feed(0x20202020, 0x20202020, 0x20202020, 0x20202020, 0x20202020), 20 * i);
        }
        due("feed 101", x.feed(0, 0, 0, 0, 0), -1);
        due("count(7)", x.count(7), 2000);
        due("back(1)", x.back(1), 1999);
        due("feed to 2019", x.feed(0, 0, 0, 0, 0), -1);
        due("count(7)", x.count(7), 1999);
        due("back(18)", x.back(18), 1981);
        due("feed to 2001", x.feed(0, 0, 0, 0, 0), -1);
        due("back(1)", x.back(1), 1980);
        due("feed to 2000", x.feed(0x20202020, 0x20202020, 0x20202020, 0x20202020, 0x20202020), 2000);
        due("back(2001)", x.back(2001), -1);
        due("back(least)", x.back(Integer.MIN_VALUE), -1);
        due("count(7)", x.count(7), 2000);
        due("read() of 2000 blanks", x.read(), 0);
        due("count(7)", x.count(7), 0);
    }

    private static void bytesOfWords() {
        WellVillages x = new WellVillages();
        x.feed(0x63656c6c, 0x20612037, 0x20313233, 0x3b636c6c, 0xfffefdfc); // cell a 7 123;
        due("back(7)", x.back(7), 13);
        due("read()", x.read(), 0);
        due("cell(0, 5)", x.cell(0, 5), 7);
        due("cell(0, 0)", x.cell(0, 0), 123);
        x.feed(0x63656c6c, 0x20612037, 0x203132c3, 0, 0);
        due("read() of a byte above 127", x.read(), 1);
        due("place()", x.place(), 11);
    }

    /** What went back is no part of the text, though it stood right behind its last token. */
    private static void whatWentBack() {
        for (String text : new String[] {"cell abcdefgh|i", "cell a 1 1234|5", "cell a 1 1;|;", "cell a 1 1;rain| x"}) {
            int end = text.indexOf('|');
            WellVillages x = new WellVillages();
            Check.put(x, text.replace("|", ""));
            x.back(text.length() - 1 - end);
            boolean whole = text.charAt(end - 1) == ';';
            due("read() of " + text, x.read(), whole ? 0 : 1);
            due("place() of " + text, x.place(), whole ? -1 : end);
        }
    }

    private static void tokens() {
        good("");
        good(" \t\r\n ");
        good("cell a 1 100;");
        good("cell\ta\r1\n100 ; ");
        good("cell a1 100;");
        good("cell abcdefgh 1 1;");
        good("cell a 0009 0000;");
        good("cell cellx 1 1;cell atat 1 1;");
        fault("cella 1 100;", 1, 0);
        fault("cell abcdefghi 1 1;", 1, 5);
        fault("cell a 1 12345;", 1, 9);
        fault("cell a 00001 1;", 1, 7);
        fault("cell A 1 1;", 1, 5);
        fault("cell a 1 1.;", 1, 10);
        fault("cell a 1 1" + (char) 11 + ";", 1, 10);
        fault("cell a 1 1" + (char) 0 + ";", 1, 10);
        fault("cell " + (char) 228 + " 1 1;", 1, 5);
        fault("cell a 1 1;{", 1, 11);
    }

    private static void syntax() {
        fault(";", 1, 0);
        fault("  a", 1, 2);
        fault("cell", 1, 4);
        fault("cell a 1 100", 1, 12);
        fault("cell a 1 100  ", 1, 14);
        fault("cell a 1;", 1, 8);
        fault("cell a 1 1 1;", 1, 11);
        fault("cell a b 1;", 1, 7);
        for (String word : "cell pass river rain village at seen day today took dry".split(" ")) {
            fault("cell " + word + " 1 1;", 1, 5);
            fault("cell a 1 1;village " + word + " a 1=1;", 1, 19);
        }
        fault("pass a 1;", 1, 7);
        fault("river a 1 1;", 1, 11);
        fault("rain 1 a;", 1, 7);
        fault("rain 1 -1;", 1, 7);
        String v = "cell a 1 1;village v a 1";
        good(v + "=1;");
        fault(v + ";", 1, 24);
        fault(v + "=;", 1, 25);
        fault(v + "=-1;", 1, 25);
        fault(v + "=1 1;", 1, 27);
        fault(v + "=1+;", 1, 27);
        fault(v + "=1+*2;", 1, 27);
        fault(v + "=1);", 1, 26);
        fault(v + "=(1;", 1, 27);
        fault(v + "=();", 1, 26);
        fault(v + "=(1", 1, 27);
        fault(v + "=at 1;", 1, 28);
        fault(v + "=at seen;", 1, 28);
        fault(v + "=a;", 1, 25);
        fault(v + "=village;", 1, 25);
        good(v + "=seen+day-today*took/dry+at a*(at a);");
    }

    private static void roomForCounts() {
        good(cells(12));
        fault(cells(12) + "cell x 1 1;", 2, 12 * 11);
        fault(cells(12) + "cell", 2, 12 * 11);
        String two = cells(6);
        String passes = times(4, "pass a b 1;") + times(4, "pass c d 1;") + times(4, "pass e f 1;")
            + times(4, "pass a c 1;") + times(4, "pass b d 1;");
        good(two + passes);
        fault(two + passes + "pass e f 1;", 2, 66 + 20 * 11);
        fault(two + passes + "pass", 2, 66 + 20 * 11);
        good(cells(1) + times(3, "river a 1 1 1;"));
        fault(cells(1) + times(3, "river a 1 1 1;") + "river", 2, 11 + 3 * 14);
        StringBuilder villages = new StringBuilder(cells(1));
        for (int i = 0; i < 6; i++) {
            villages.append("village v").append((char) ('a' + i)).append(" a 1=1;");
        }
        good(villages.toString());
        fault(villages + " village w a 1=1;", 2, 11 + 6 * 17 + 1);
        good("rain" + times(14, " 1") + ";");
        fault("rain" + times(15, " 1") + ";", 2, 4 + 28 + 1);
        fault("rain" + times(15, " 1"), 2, 4 + 28 + 1);
        good(times(8, "rain" + times(14, " 1") + ";"));
    }

    private static void roomForWays() {
        String eight = cells(3) + times(8, "pass a b 1;"); // 33 + 88 bytes
        good(eight);
        fault(eight + " pass a c 1;", 2, 122);
        fault(eight + "pass c b 1;", 2, 121);
        fault(eight + "pass b a 1;", 2, 121);
        fault(eight + "pass a c x", 2, 121); // as soon as its cells are read
        fault(eight + "pass a c", 2, 121);
        fault(eight + "pass a", 1, 127);
        fault(eight + "pass a 1", 1, 128);
        fault(eight + "river a 1 1 1;", 2, 121);
        fault(eight + "river a", 2, 121);
        fault(eight + "river ", 1, 127);
        good(eight + "river c 1 1 1;");
        fault(cells(2) + times(6, "pass a b 1;") + times(3, "river a 1 1 1;"), 2, 22 + 66 + 28);
        // what makes no way
        fault(eight + "pass a a 1;", 5, 128);
        fault(eight + "pass a z 1;", 4, 128);
        fault(eight + "pass z a 1;", 4, 126);
        fault(eight + "river z 1 1 1;", 4, 127);
        WellVillages x = Check.over(eight + "river c 1 1 1;");
        due("cell(0, 6)", x.cell(0, 6), 8);
        due("cell(1, 6)", x.cell(1, 6), 8);
        due("cell(2, 6)", x.cell(2, 6), 1);
    }

    private static void roomForTokens() {
        good(times(200, "rain;"));
        fault(times(200, "rain;") + "rain;", 2, 1000);
        fault(times(200, "rain;") + " ;", 1, 1001);
        fault(times(200, "rain;") + ".", 1, 1000);
        fault(times(200, "rain;") + "cell cell", 2, 1000);
        fault(times(199, "rain;") + "rain 1;", 2, 1001);
        fault(times(199, "rain;") + "rain 12345;", 1, 1000);
        fault(times(199, "rain;") + "rain", 1, 999);
        // the word pass is ahead of the 401st token
        String eight = cells(3) + times(8, "pass a b 1;"); // 15 + 40 tokens
        fault(eight + times(171, "rain;") + "rain 1;pass a c 1;", 2, 121 + 855 + 7);
        fault(eight + times(172, "rain;") + "pass a c 1;", 2, 121 + 860);
    }

    private static void roomForNesting() {
        String v = "cell a 1 1;village v a 1=";
        good(v + "((((((1))))));");
        good(v + "((((((1))))))+((((((1))))));");
        fault(v + "(((((((1)))))));", 2, 25 + 6);
        fault(v + "1+(2*((((((1)))))));", 2, 35);
        fault(v + "(((((((;", 2, 25 + 6);
        fault(v + "((((((;", 1, 25 + 6);
    }

    private static void names() {
        fault("cell a 1 1;cell a 1 1;", 3, 16);
        fault("cell a 1 1;village a a 1=1;", 3, 19);
        fault("cell a 1 1;village v a 1=1;village v a 1=1;", 3, 35);
        fault("cell a 1 1;village v a 1=1;cell v 1 1;", 3, 32);
        fault("pass a b 1;cell a 1 1;cell b 1 1;", 4, 5);
        fault("cell a 1 1;pass a b 1;", 4, 18);
        fault("river a 1 1 1;", 4, 6);
        fault("village v a 1=1;cell a 1 1;", 4, 10);
        fault("village v v 1=1;", 4, 10);
        fault("cell a 1 1;village v a 1=at b;cell b 1 1;", 4, 28);
        fault("cell a 1 1;village v a 1=1;village w a 1=at v;", 4, 44);
        fault("cell a 1 1;village v a 1=1;pass a v 1;", 4, 34);
    }

    private static void numbers() {
        fault("cell a 0 1;", 5, 7);
        good("cell a 9 9999;");
        fault("cell a 10 1;", 5, 7);
        String two = cells(2);
        fault(two + "pass a b 0;", 5, 31);
        good(two + "pass a b 10;");
        fault(two + "pass a b 11;", 5, 31);
        fault(two + "pass a a 11;", 5, 29);
        good(two + "river a 999 10 99;river b 0 1 0;");
        fault(two + "river a 1000 10 99;", 5, 30);
        fault(two + "river a 999 0 99;", 5, 34);
        fault(two + "river a 999 11 99;", 5, 34);
        fault(two + "river a 999 10 100;", 5, 37);
        good("rain 0 99;");
        fault("rain 0 100;", 5, 7);
        fault("rain 100;rain 1;", 5, 5);
        good(two + "village v a 99=9999;village w a 0=0;");
        fault(two + "village v a 100=1;", 5, 34);
    }

    private static void whichFaultIsFirst() {
        fault("cell a 0 1;cell a 1 1;pass a z 1;", 5, 7);
        fault("cell a 1 1;pass a z 0;cell a 0 1;", 4, 18);
        fault("cell a 1 1;cell a 0 0;pass q q 1;", 3, 16);
        fault("cell a 0 1;cell a 1 1;pass a z 1;;", 1, 33);
        fault("cell a 0 1;pass z z 99;rain" + times(15, " 1") + ";", 2, 27 + 28 + 1);
        fault("rain" + times(15, " 1") + ";;", 2, 33);
        fault("rain x" + times(15, " 1") + ";", 1, 5);
    }

    private static void faultChangesOnlyTheTape() {
        WellVillages x = Check.over("cell a 2 50;rain 3;village v a 9=4;");
        x.tell(1, 0, 25);
        x.run(2);
        x.hold(1);
        Check.put(x, "cell b 1 1;cell b 1 1;");
        due("read()", x.read(), 3);
        due("place()", x.place(), 16);
        due("count(0)", x.count(0), 1);
        due("count(4)", x.count(4), 2);
        due("count(5)", x.count(5), 1);
        due("count(6)", x.count(6), 1);
        due("count(7)", x.count(7), 0);
        due("count(8)", x.count(8), 1);
        due("cell(0, 0)", x.cell(0, 0), 48);
        due("cell(0, 5)", x.cell(0, 5), 2);
        due("village(0, 1)", x.village(0, 1), 2);
        due("want(0)", x.want(0), 4);
        due("restore(1)", x.restore(1) ? 1 : 0, 1);
    }

    private static void textTakesThePlaceOfTheOneAhead() {
        WellVillages x = Check.over("cell a 2 50;river a 200 10 9;rain 3;village v a 9=4;");
        x.tell(1, 0, 25);
        x.run(2);
        x.hold(0);
        x.hold(2);
        Check.put(x, "cell b 5 20;village w b 3 = took + 1;;");
        due("read()", x.read(), 1);
        due("place()", x.place(), 37);
        Check.put(x, "cell b 5 20;village w b 3 = took + 1;");
        due("read()", x.read(), 0);
        due("place()", x.place(), -1);
        due("count(4)", x.count(4), 0);
        due("count(5)", x.count(5), 0);
        due("count(6)", x.count(6), 0);
        due("count(8)", x.count(8), 0);
        due("count(9)", x.count(9), 20);
        due("restore(0)", x.restore(0) ? 1 : 0, 0);
        due("cell(0, 0)", x.cell(0, 0), 20);
        due("cell(0, 2)", x.cell(0, 2), 0);
        due("cell(0, 3)", x.cell(0, 3), 0);
        due("cell(0, 6)", x.cell(0, 6), 0);
        due("village(0, 0)", x.village(0, 0), 0);
        due("village(0, 1)", x.village(0, 1), 0);
        due("village(0, 2)", x.village(0, 2), -2);
        due("village(0, 5)", x.village(0, 5), 0);
        due("want(0)", x.want(0), 1);
        due("read() of nothing", x.read(), 0);
        due("count(0)", x.count(0), 0);
        due("count(3)", x.count(3), 0);
    }
}
