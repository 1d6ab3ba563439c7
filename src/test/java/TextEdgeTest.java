/** The edges that the document names for the tape and its texts (promises 1 to 5): a method for each sentence. */
public final class TextEdgeTest {
    private static final Check CHECK = new Check("TextEdgeTest");
    private static final String WORDS = "cell pass river rain village at seen day today took dry";
    private static final String TWO = "cell a 1 1;cell b 1 1;"; // 22 bytes, 10 tokens
    private static final String LAW = "cell a 1 1;village v a 1="; // 25 bytes

    public static void main(String[] args) {
        newObject();
        feedUpToTheLast();
        feedOrder();
        backEdges();
        readEmptiesTheTape();
        placeOfTheLatest();
        bytesAtMost();
        blanks();
        blanksOrNone();
        longestTokens();
        nameLetters();
        nameIsNoWord();
        intDigits();
        firstByteOfAText();
        rooms();
        waters();
        passWidths();
        riverNumbers();
        needs();
        rainNumbers();
        rainOfSeveral();
        syntaxAtEachPlace();
        textsEnd();
        token401();
        cell13();
        pass21();
        river4();
        village7();
        number15();
        way9OfAPass();
        way9OfARiver();
        way9AsSoonAsItsCellsAreRead();
        whatMakesNoWay();
        nesting7();
        leastOfOnePlace();
        firstByPlace();
        syntaxAndRoomAheadOfTheRest();
        twice();
        noCellAhead();
        toItself();
        faultOfEachKindChangesNothing();
        anewByATextWithoutFault();
        textsOneByOne();
        CHECK.end();
    }

    private static void due(String call, long got, long want) {
        CHECK.due(call, got, want);
    }

    private static void due(String what, String got, String want) {
        CHECK.due(what + ": " + got + " / " + want, got.equals(want), true);
    }

    private static void fault(String text, int number, int place) {
        WellVillages x = new WellVillages();
        Check.put(x, text);
        due("count(7) ahead of <" + text + ">", x.count(7), text.length());
        due("read() of <" + text + ">", x.read(), number);
        due("place() of <" + text + ">", x.place(), place);
    }

    private static void good(String text) {
        fault(text, 0, -1);
    }

    private static String times(int n, String part) {
        return part.repeat(n);
    }

    private static String cells(int n) {
        StringBuilder s = new StringBuilder();
        for (int i = 0; i < n; i++) {
            s.append("cell ").append((char) ('a' + i)).append(" 1 1;"); // 11 bytes
        }
        return s.toString();
    }

    private static String villages(int n) {
        StringBuilder s = new StringBuilder("cell a 1 1;");
        for (int i = 0; i < n; i++) {
            s.append("village v").append((char) ('a' + i)).append(" a 1=1;"); // 17 bytes
        }
        return s.toString();
    }

    // ---- promises 1 to 5

    /** "Nothing is told": each call answers as if there were none of what it asks for. */
    private static void newObject() {
        WellVillages x = new WellVillages();
        due("cell", x.cell(0, 0), -1);
        due("village", x.village(0, 0), -1);
        due("want", x.want(0), -1);
        due("flow", x.flow(0, false), -1000000);
        due("flow", x.flow(0, true), -1000000);
        due("pour", x.pour(0, 0) ? 1 : 0, 0);
        due("dry", x.dry(0, 1), -1);
        due("dries", x.dries(0, 1), -1);
        due("salty", x.salty(0, 1, 1), -1);
        due("effect", x.effect(0, 0, 0, 1), -1000000);
        due("saved", x.saved(1, 0, 0, 1), -1000000);
        due("fairest", x.fairest(1), -1);
        due("most", x.most(0, 1), -1);
        due("firstOf", x.firstOf(1), -2);
        due("share", x.share(1), -1);
        due("shut", x.shut(0, 1), -1);
        for (int what = 0; what <= 3; what++) {
            due("balance", x.balance(200, what), 0);
        }
        due("parts", x.parts(), 0);
        due("bridges", x.bridges(), 0);
        due("worth", x.worth(0, 0, 1), -1);
        due("blame", x.blame(0, 0, 1), -1000000);
        due("tell", x.tell(0, 0, 0), -1);
        due("forget", x.forget(), 0);
        due("off", x.off(0), -2);
        due("span", x.span(0, 0), -1);
        due("rainSpan", x.rainSpan(0, 0), -1);
        due("pairs", x.pairs(0, 1, 0, 0), -1);
        due("test", x.test(0, 1, 0, 0), -1);
        due("hidden", x.hidden(0, 0), -3);
        due("restore", x.restore(0) ? 1 : 0, 0);
        due("place", x.place(), -1);
        due("back", x.back(0), 0);
        due("hold", x.hold(0) ? 1 : 0, 1);
        due("run", x.run(1), 1);
        due("restore", x.restore(0) ? 1 : 0, 1);
        due("count(4)", x.count(4), 0);
    }

    private static int blankFeed(WellVillages x) {
        return x.feed(0x20202020, 0x20202020, 0x20202020, 0x20202020, 0x20202020);
    }

    /** "NONE, and nothing comes, if it would have more than 2,000." */
    private static void feedUpToTheLast() {
        for (int over = 0; over < 20; over++) {
            WellVillages x = new WellVillages();
            for (int i = 0; i < 99; i++) {
                blankFeed(x);
            }
            blankFeed(x);
            x.back(over); // 2000 less over
            due("feed onto " + (2000 - over), x.feed(0x61616161, 0, 0, 0, 0), -1);
            due("count(7)", x.count(7), 2000 - over);
            due("nothing came", x.read(), 0);
        }
        WellVillages x = new WellVillages();
        for (int i = 0; i < 100; i++) {
            blankFeed(x);
        }
        x.back(20);
        due("feed onto 1980", x.feed(0x20202020, 0x20202020, 0x20202020, 0x20202020, 0x20202061), 2000);
        due("what came last is the last byte", x.read(), 1);
        due("place()", x.place(), 1999);
    }

    /** "Twenty bytes, the highest of a first": the place of the only byte that is no blank tells where it came. */
    private static void feedOrder() {
        for (int at = 0; at < 20; at++) {
            int[] w = {0x20202020, 0x20202020, 0x20202020, 0x20202020, 0x20202020};
            w[at / 4] ^= (0x20 ^ 0xff) << 8 * (3 - at % 4);
            WellVillages x = new WellVillages();
            due("feed", x.feed(w[0], w[1], w[2], w[3], w[4]), 20);
            due("read()", x.read(), 1);
            due("place()", x.place(), at);
        }
    }

    /** "NONE, and nothing goes, if it has not so many, or n is below 0." */
    private static void backEdges() {
        WellVillages x = new WellVillages();
        blankFeed(x);
        due("back(21)", x.back(21), -1);
        due("back(-1)", x.back(-1), -1);
        due("back(greatest)", x.back(Integer.MAX_VALUE), -1);
        due("back(least)", x.back(Integer.MIN_VALUE), -1);
        due("count(7)", x.count(7), 20);
        due("back(0)", x.back(0), 20);
        due("back(19)", x.back(19), 1);
        due("back(2)", x.back(2), -1);
        due("count(7)", x.count(7), 1);
        due("back(1)", x.back(1), 0);
        due("back(1)", x.back(1), -1);
        due("back(0)", x.back(0), 0);
    }

    /** "The tape, which is empty then, is read": with a fault too, and an empty one. */
    private static void readEmptiesTheTape() {
        WellVillages x = new WellVillages();
        Check.put(x, "rain 1 2 3;");
        due("read()", x.read(), 0);
        due("count(7)", x.count(7), 0);
        due("back(1)", x.back(1), -1);
        Check.put(x, "rain 1 2 ;;");
        due("read()", x.read(), 1);
        due("count(7)", x.count(7), 0);
        due("the text ahead stays", x.count(5), 3);
        due("feed", blankFeed(x), 20);
        due("read() of blanks", x.read(), 0);
        due("a text without tellings is one", x.count(5), 0);
        Check.put(x, "rain 1;");
        x.read();
        due("read() of nothing", x.read(), 0);
        due("it is a text too", x.count(5), 0);
    }

    /** "The byte of the latest read()'s FAULT; NONE without." */
    private static void placeOfTheLatest() {
        WellVillages x = new WellVillages();
        Check.put(x, "  x");
        x.read();
        due("place()", x.place(), 2);
        due("place() again", x.place(), 2);
        Check.put(x, "x");
        due("place() is not of what is on the tape", x.place(), 2);
        x.read();
        due("place() of the first byte", x.place(), 0);
        Check.put(x, "rain;");
        x.read();
        due("place() without", x.place(), -1);
    }

    // ---- texts and tokens

    /** "A TEXT has 2,000 bytes at most": one of just so many is read to its last byte. */
    private static void bytesAtMost() {
        good(times(2000, " "));
        WellVillages x = Check.over(times(1993, " ") + "rain 7;");
        due("count(5)", x.count(5), 1);
        x = Check.over("rain 7;" + times(1993, "\n"));
        due("count(5)", x.count(5), 1);
        fault(times(1999, " ") + "a", 1, 1999);
        fault(times(1996, " ") + "rain", 1, 2000);
        fault("rain" + times(1996, "1"), 1, 4);
        fault(times(2000, "a"), 1, 0);
    }

    /** "blanks (9, 10, 13, 32)": and no others, of all bytes that there are. */
    private static void blanks() {
        for (int b = 0; b < 256; b++) {
            String text = "rain" + (char) b + "1;";
            if (b == 9 || b == 10 || b == 13 || b == 32 || b >= '0' && b <= '9') {
                good(text);
            } else {
                fault(text, 1, b >= 'a' && b <= 'z' ? 0 : b == ';' ? 5 : 4);
            }
        }
    }

    /** "with blanks ... between or not" */
    private static void blanksOrNone() {
        String[] tokens = {"cell", " ", "a", "9", " ", "99", ";", "river", " ", "a", "1", " ", "1", " ", "1", ";", "rain", "1", ";",
            "village", " ", "v", " ", "a", "1", "=", "(", "at", " ", "a", "+", "1", ")", "*", "2", "/", "seen", "-", "day", ";"};
        good(String.join("", tokens));
        for (String blank : new String[] {"\t", "\n", "\r", " ", " \t\r\n "}) {
            good(blank + String.join(blank, tokens) + blank);
        }
    }

    /** "TOKENS, the longest that can be" */
    private static void longestTokens() {
        due("rain12;", Check.over("rain12;").count(5), 1);
        due("rain1 2;", Check.over("rain1 2;").count(5), 2);
        fault("rains;", 1, 0);
        fault("cellb 1 1;", 1, 0);
        fault("rain 11112222;", 1, 5);
        fault(LAW + "seenday;", 1, 25);
        fault(LAW + "ata;", 1, 25);
        fault("cell abcdefghabcdefgh 1 1;", 1, 5);
    }

    /** "NAMES (letters a .. z, 8 at most)" and "A longer one ... is no TOKEN." */
    private static void nameLetters() {
        for (int letters = 1; letters <= 8; letters++) {
            good("cell " + times(letters, "z") + " 1 1;");
        }
        for (int letters = 9; letters <= 30; letters++) {
            fault("cell " + times(letters, "z") + " 1 1;", 1, 5);
        }
        good("cell abcdefgh 1 1;cell abcdefg 1 1;cell abcdefgi 1 1;cell bbcdefgh 1 1;"); // four names
        for (char c = 'a'; c <= 'z'; c++) {
            good("cell " + c + " 1 1;river " + c + " 1 1 1;");
        }
        for (char no : new char[] {'A', 'Z', '`', '{', '@', '[', '_', '$', 0, 127, 128, 225, 255}) {
            fault("cell " + no + " 1 1;", 1, 5);
            fault("cell b" + no + " 1 1;", 1, 6);
        }
    }

    /** "none of the words in quotes": where a NAME is due, a word is none. */
    private static void nameIsNoWord() {
        for (String word : WORDS.split(" ")) {
            fault("cell " + word + " 1 1;", 1, 5);
            fault(TWO + "pass " + word + " a 1;", 1, 27);
            fault(TWO + "pass a " + word + " 1;", 1, 29);
            fault(TWO + "river " + word + " 1 1 1;", 1, 28);
            fault(TWO + "village " + word + " a 1=1;", 1, 30);
            fault(TWO + "village v " + word + " 1=1;", 1, 32);
            fault(LAW + "at " + word + ";", 1, 28);
            String longer = word + "s";
            String shorter = word.substring(1);
            good("cell " + longer + " 1 1;cell x" + shorter + " 1 1;");
        }
    }

    /** "INTS (1 to 4 digits)" */
    private static void intDigits() {
        for (String number : "0 1 9 10 099 100 0999 1000 9999 0000".split(" ")) {
            WellVillages x = Check.over("cell a 1 " + number + ";");
            due("WATER " + number, x.cell(0, 0), Integer.parseInt(number));
        }
        for (String number : "00000 00001 10000 99999 123456 2147483648 4294967297".split(" ")) {
            fault("cell a 1 " + number + ";", 1, 9);
            fault("cell a " + number + " 1;", 1, 7);
            fault("rain " + number + ";", 1, 5);
            fault(LAW + number + ";", 1, 25);
        }
        fault("cell a 1 -1;", 1, 9);
        fault("cell a 1 +1;", 1, 9);
        fault("cell a 1 1.5;", 1, 10);
    }

    /** "all else, is no TOKEN": a text's first byte, whichever it is. */
    private static void firstByteOfAText() {
        for (int b = 0; b < 256; b++) {
            boolean blank = b == 9 || b == 10 || b == 13 || b == 32;
            fault("" + (char) b, blank ? 0 : 1, blank ? -1 : 0);
        }
    }

    // ---- numbers that are not as told

    /** "ROOM 1 .. 9" */
    private static void rooms() {
        for (int room = 1; room <= 9; room++) {
            due("ROOM " + room, Check.over("cell a " + room + " 5;").cell(0, 5), room);
        }
        for (int room : new int[] {0, 10, 11, 99, 100, 9999}) {
            fault("cell a " + room + " 1;", 5, 7);
        }
    }

    /** WATER has no bounds but those of an INT. */
    private static void waters() {
        for (int water : new int[] {0, 1, 9998, 9999}) {
            due("WATER " + water, Check.over("cell a 1 " + water + ";").count(9), water);
        }
    }

    /** "WIDTH 1 .. 10" of a PASS */
    private static void passWidths() {
        for (int width = 1; width <= 10; width++) {
            due("WIDTH " + width, Check.over("cell a 1 100;cell b 1 0;pass a b " + width + ";").flow(0, false), width);
        }
        for (int width : new int[] {0, 11, 100, 9999}) {
            fault(TWO + "pass a b " + width + ";", 5, 31);
        }
    }

    /** "a LEVEL 0 .. 999, WIDTH 1 .. 10, SALT 0 .. 99" of a RIVER */
    private static void riverNumbers() {
        for (int width = 1; width <= 10; width++) {
            good("cell a 1 1;river a 0 " + width + " 0;");
        }
        WellVillages x = Check.over("cell a 1 0;river a 999 10 99;river a 0 1 0;");
        x.run(1);
        due("WATER of a LEVEL of 999", x.cell(0, 0), 99);
        due("SALT of 99 each", x.cell(0, 3), 99 * 99);
        String a = "cell a 1 1;river a "; // 19 bytes
        fault(a + "1000 1 1;", 5, 19);
        fault(a + "9999 0 100;", 5, 19);
        fault(a + "999 0 1;", 5, 23);
        fault(a + "999 11 100;", 5, 23);
        fault(a + "999 10 100;", 5, 26);
        fault(a + "0 1 9999;", 5, 23);
    }

    /** "a NEED 0 .. 99" */
    private static void needs() {
        for (int need : new int[] {0, 1, 98, 99}) {
            due("NEED " + need, Check.over("cell a 1 1;village v a " + need + "=1;").village(0, 4), need);
        }
        for (int need : new int[] {100, 101, 999, 9999}) {
            fault("cell a 1 1;village v a " + need + "=1;", 5, 23);
        }
    }

    /** "a row of up to 14 numbers 0 .. 99" */
    private static void rainNumbers() {
        for (int n = 0; n <= 14; n++) {
            due(n + " numbers", Check.over("rain" + times(n, " 99") + ";").count(5), n);
        }
        good("rain 0 00 000 0000 99 099 0099;");
        fault("rain 100;", 5, 5);
        fault("rain 0 100 999;", 5, 7);
        fault("rain" + times(13, " 1") + " 9999;", 5, 31);
    }

    /** "(of several the last one; none: 0)" */
    private static void rainOfSeveral() {
        due("three and two", Check.over("rain 1 2 3;rain 4 5;").count(5), 2);
        WellVillages x = Check.over("rain 1 2 3;cell a 1 0;rain 4 5;");
        x.run(1);
        due("4", x.cell(0, 0), 4);
        x.run(1);
        due("5", x.cell(0, 0), 9);
        x.run(1);
        due("4 again", x.cell(0, 0), 13);
        x = Check.over("cell a 1 3;");
        x.run(2);
        due("none", x.cell(0, 0), 3);
        x = Check.over("cell a 1 3;rain;");
        x.run(2);
        due("one without numbers", x.cell(0, 0), 3);
        x = Check.over("cell a 1 3;rain 5;rain;");
        x.run(2);
        due("the last one without numbers", x.cell(0, 0), 3);
        due("count(5)", x.count(5), 0);
        fault("rain 100;rain 1;", 5, 5); // an earlier one has faults all the same
        fault("rain" + times(15, " 1") + ";rain 1;", 2, 33);
    }

    // ---- SYNTAX

    /** "a TOKEN, or what is none, with which no text goes on": each token of each telling gives way to one. */
    private static void syntaxAtEachPlace() {
        String[] tellings = {"cell c 1 1 ;", "pass a b 1 ;", "river a 1 1 1 ;", "village v a 1 = at a ;",
            "village v a 1 = ( 1 + day ) * 2 ;", "rain 1 2 ;"};
        for (String telling : tellings) {
            String[] tokens = telling.split(" ");
            for (int i = 0; i < tokens.length; i++) {
                boolean rain = tokens[0].equals("rain") && (i == 1 || i == 2);
                if (!rain) {
                    brokenAt(tokens, i, ".");
                    brokenAt(tokens, i, "today" + "today");
                    brokenAt(tokens, i, "12345");
                    brokenAt(tokens, i, tokens[i].equals("=") ? ";" : "=");
                }
            }
        }
    }

    /** A token is replaced by what can't stand there. */
    private static void brokenAt(String[] tokens, int at, String by) {
        StringBuilder text = new StringBuilder(TWO);
        int place = 0;
        for (int i = 0; i < tokens.length; i++) {
            place = i == at ? text.length() : place;
            text.append(i == at ? by : tokens[i]).append(' ');
        }
        fault(text.toString(), 1, place);
    }

    /** "the text's end: its length" */
    private static void textsEnd() {
        for (String telling : new String[] {"cell c 1 1 ;", "pass a b 1 ;", "river a 1 1 1 ;", "rain 1 2 ;",
            "village v a 1 = ( at a + day ) * 2 ;"}) {
            String[] tokens = telling.split(" ");
            String text = TWO;
            for (String token : tokens) {
                text += text.equals(TWO) ? token : " " + token;
                if (token.equals(";")) {
                    good(text);
                } else {
                    fault(text, 1, text.length());
                    fault(text + " \t\r\n", 1, text.length() + 4);
                }
            }
        }
    }

    // ---- ROOM

    /** "a 401st TOKEN": at it, whichever telling it is of. */
    private static void token401() {
        good(times(200, "rain;"));
        fault(times(200, "rain;") + "rain;", 2, 1000);
        fault(times(200, "rain;") + "cell x 1 1;", 2, 1000);
        fault(times(400, "rain;"), 2, 1000); // far more than 401
        fault(times(285, "rain 1;"), 2, 7 * 133 + 5);
        fault(times(199, "rain;") + "rain 1;", 2, 1001);
        fault(times(199, "rain;") + "cell a 1 1;", 2, 1002);
        fault(times(199, "rain;") + "pass a b 1;", 2, 1002);
        fault(times(199, "rain;") + "river a 1 1 1;", 2, 1003);
        fault(times(199, "rain;") + "village v a 1=1;", 2, 1005);
        String law = LAW + "1" + times(193, "+1"); // 5 + 5 + 1 + 386 tokens
        good(law + ";");
        good(law + "+1;"); // 400
        fault(law + "+1+1;", 2, 25 + 387 + 3);
        fault(law + "+1-", 1, 25 + 387 + 3); // the 400th, behind which the text ends
        fault(law + "+(1);", 2, 25 + 387 + 3);
        fault(law + "+1;rain;", 2, 25 + 387 + 3);
        fault(law + "+1 ; . ", 1, 25 + 387 + 5); // what is no TOKEN is no 401st one
        fault(law + "+1;rain . . 99999", 2, 25 + 387 + 3);
    }

    /** "a 13th cell ... (at its first TOKEN)" */
    private static void cell13() {
        due("12 cells", Check.over(cells(12)).count(0), 12);
        fault(cells(13), 2, 132);
        fault(cells(12) + " \tcell", 2, 134);
        fault(cells(12) + "cell 5", 2, 132);
        fault(cells(12) + "rain;cell z 1 1;", 2, 137);
        fault(times(13, "cell a 1 1;"), 2, 132); // told twice, but a 13th all the same
    }

    private static final String PASSES = times(4, "pass a b 1;") + times(4, "pass c d 1;") + times(4, "pass e f 1;")
        + times(4, "pass a c 1;") + times(4, "pass b d 1;");

    /** "a 21st pass" */
    private static void pass21() {
        due("20 passes", Check.over(cells(6) + PASSES).count(1), 20);
        fault(cells(6) + PASSES + "pass e f 1;", 2, 66 + 220);
        fault(cells(6) + PASSES + " pass", 2, 66 + 221);
        fault(cells(6) + PASSES + "pass 1", 2, 66 + 220);
        fault(times(21, "pass a b 1;"), 2, 220); // no cells, but a 21st all the same
    }

    /** "a 4th river" */
    private static void river4() {
        due("3 rivers", Check.over("cell a 1 1;" + times(3, "river a 1 1 1;")).count(2), 3);
        fault("cell a 1 1;" + times(4, "river a 1 1 1;"), 2, 11 + 42);
        fault("cell a 1 1;" + times(3, "river a 1 1 1;") + " river", 2, 11 + 43);
        fault(times(4, "river a 1 1 1;"), 2, 42);
    }

    /** "a 7th village" */
    private static void village7() {
        due("6 villages", Check.over(villages(6)).count(3), 6);
        fault(villages(7), 2, 11 + 6 * 17);
        fault(villages(6) + "village", 2, 11 + 6 * 17);
        fault(times(7, "village v a 1=1;"), 2, 6 * 16);
    }

    /** "a 15th number of a rain (at it)" */
    private static void number15() {
        good("rain" + times(14, " 1") + ";rain" + times(14, " 1") + ";");
        fault("rain" + times(14, " 1") + " 22;", 2, 33);
        fault("rain" + times(14, " 1") + " 100;", 2, 33);
        fault("rain" + times(14, " 1") + " 12345;", 1, 33);
        fault("rain" + times(14, " 1") + " a;", 1, 33);
        fault("rain" + times(15, " 1"), 2, 33);
        fault("rain 1;rain" + times(15, " 1") + ";", 2, 40);
    }

    private static final String EIGHT = cells(3) + times(8, "pass a b 1;"); // 33 + 88 bytes

    /** "a 9th WAY (PASS or RIVER) of a CELL (at the word pass, river that makes it ..; both .. have eight: once)" */
    private static void way9OfAPass() {
        good(EIGHT);
        fault(EIGHT + "pass a c 1;", 2, 121);
        fault(EIGHT + "pass c a 1;", 2, 121);
        fault(EIGHT + "pass b c 1;", 2, 121);
        fault(EIGHT + "pass c b 1;", 2, 121);
        fault(EIGHT + "pass a b 1;", 2, 121);
        fault(EIGHT + "\n\npass b a 1;", 2, 123);
        String mixed = cells(2) + times(5, "pass a b 1;") + times(3, "river a 1 1 1;"); // 22 + 55 + 42
        good(mixed);
        due("WAYS of a", Check.over(mixed).cell(0, 6), 8);
        due("WAYS of b", Check.over(mixed).cell(1, 6), 5);
        fault(mixed + "pass b a 1;", 2, 119);
    }

    private static void way9OfARiver() {
        fault(EIGHT + "river a 1 1 1;", 2, 121);
        fault(EIGHT + "river b 1 1 1;", 2, 121);
        good(EIGHT + "river c 1 1 1;");
        String seven = cells(2) + times(7, "pass a b 1;"); // 22 + 77
        good(seven + "river a 1 1 1;river b 1 1 1;");
        fault(seven + "river a 1 1 1;river a 1 1 1;", 2, 99 + 14);
    }

    /** "as soon as its CELLS are read": what comes behind them is not looked at. */
    private static void way9AsSoonAsItsCellsAreRead() {
        for (String rest : new String[] {"", " ", " ;", " .", " 12345", " x", " 0;", " 1;;"}) {
            fault(EIGHT + "pass a c" + rest, 2, 121);
            fault(EIGHT + "river b" + rest, 2, 121);
        }
        fault(EIGHT + "pass a", 1, 127);
        fault(EIGHT + "pass a ", 1, 128);
        fault(EIGHT + "pass a .", 1, 128);
        fault(EIGHT + "pass a 1", 1, 128);
        fault(EIGHT + "river", 1, 126);
        fault(EIGHT + "river 1", 1, 127);
    }

    /** "(A PASS of a CELL to itself, or with a NAME that is none, makes no WAY; a RIVER with a NAME that is none neither.)" */
    private static void whatMakesNoWay() {
        fault(EIGHT + "pass a a 1;", 5, 128);
        fault(EIGHT + "pass a z 1;", 4, 128);
        fault(EIGHT + "pass z b 1;", 4, 126);
        fault(EIGHT + "river z 1 1 1;", 4, 127);
        String none = cells(2) + "pass a a 1;pass a z 1;pass z a 1;river z 1 1 1;"; // 22 + 11 * 3 + 14
        fault(none + times(8, "pass a b 1;"), 5, 29);
        fault(none + times(9, "pass a b 1;"), 2, 69 + 88);
        fault("village v a 1=1;cell a 1 1;" + times(8, "pass a v 1;"), 4, 10);
    }

    /** "a 7th ( within one another (at it)" */
    private static void nesting7() {
        for (int depth = 0; depth <= 6; depth++) {
            good(LAW + times(depth, "(") + "1" + times(depth, ")") + ";");
            good(LAW + "2*" + times(depth, "(") + "1" + times(depth, ")") + "-" + times(6, "(") + "1" + times(6, ")") + ";");
        }
        fault(LAW + times(7, "(") + "1" + times(7, ")") + ";", 2, 31);
        fault(LAW + times(7, "( ") + "1", 2, 37);
        fault(LAW + times(7, "("), 2, 31);
        fault(LAW + times(6, "("), 1, 31);
        fault(LAW + times(6, "(") + "1" + times(5, ")") + "+" + times(4, "(") + "1);", 1, 44);
        fault(LAW + times(6, "(") + "1" + times(5, ")") + "+" + times(6, "(") + "1);", 2, 43);
        good(LAW + times(20, "((((((1))))))+") + "1;");
    }

    // ---- which FAULT

    /** "of one place the least" */
    private static void leastOfOnePlace() {
        fault(times(200, "rain;") + ";", 1, 1000); // a 401st TOKEN with which no text goes on
        fault(times(200, "rain;") + "a", 1, 1000);
        fault(times(199, "rain;") + "rain a;", 1, 1000);
        fault(times(199, "rain;") + "cell a a", 1, 1002);
    }

    /** "the first by its place": of SYNTAX and ROOM. */
    private static void firstByPlace() {
        fault(cells(12) + "cell;", 2, 132);
        fault(";" + cells(13), 1, 0);
        fault("rain" + times(15, " 1") + cells(13), 2, 33);
        fault(LAW + "(((((((;" + ";", 2, 31);
        fault(LAW + ")(((((((;", 1, 25);
        fault(cells(12) + "rain . ; cell", 1, 137);
        fault(EIGHT + "pass a c 1 1;", 2, 121);
        fault(EIGHT + "pass 1 c 1 1;", 1, 126);
    }

    /** "If there is none, likewise": 3 to 5 count only in a text without SYNTAX and ROOM, wherever those stand. */
    private static void syntaxAndRoomAheadOfTheRest() {
        String three = "cell a 0 1;cell a 1 1;pass a z 1;"; // 5 at 7, 3 at 16, 4 at 29
        fault(three, 5, 7);
        fault(three + ";", 1, 33);
        fault(three + "x", 1, 33);
        fault(three + "rain", 1, 37);
        fault(three + "rain" + times(15, " 1") + ";", 2, 33 + 33);
        fault(three + LAW.substring(11) + times(7, "("), 2, 33 + 14 + 6);
        fault(three.substring(11), 4, 18); // the second cell is the first of its name then
        fault("pass a z 1;cell a 0 1;cell a 1 1;", 4, 5);
        fault("cell a 1 1;cell a 0 1;pass a z 1;", 3, 16);
    }

    /** "TWICE: a NAME told already (CELLS and VILLAGES together)" */
    private static void twice() {
        fault("cell a 1 1;cell a 1 1;", 3, 16);
        fault("cell a 1 1;cell b 1 1;cell a 1 1;", 3, 27);
        fault("cell a 1 1;village a a 1=1;", 3, 19);
        fault("cell a 1 1;village v a 1=1;cell v 1 1;", 3, 32);
        fault("cell a 1 1;village v a 1=1;village v a 1=1;", 3, 35);
        fault("cell abcdefgh 1 1;cell abcdefgh 1 1;", 3, 23);
        good("cell a 1 1;cell aa 1 1;cell aaa 1 1;village aaaa a 1=1;village aaaaa a 1=1;");
        WellVillages x = Check.over("cell a 1 1;");
        Check.put(x, "cell a 1 2;");
        due("a NAME of the text ahead is not told in this one", x.read(), 0);
    }

    /** "NAME: no CELL told ahead" */
    private static void noCellAhead() {
        fault("pass a b 1;cell a 1 1;cell b 1 1;", 4, 5);
        fault("cell a 1 1;pass a b 1;cell b 1 1;", 4, 18);
        fault("river a 1 1 1;cell a 1 1;", 4, 6);
        fault("village v a 1=1;cell a 1 1;", 4, 10);
        fault(LAW + "at b;cell b 1 1;", 4, 28);
        fault(LAW + "1;village w a 1=at v;", 4, 44);
        fault(LAW + "at v;", 4, 28);
        fault(LAW + "1;pass a v 1;", 4, 34);
        fault(LAW + "1;river v 1 1 1;", 4, 33);
        fault(LAW + "1;village w v 1=1;", 4, 37);
        fault("pass z z 1;", 4, 5);
        WellVillages x = Check.over("cell a 1 1;");
        Check.put(x, "river a 1 1 1;");
        due("a CELL of the text ahead is none of this one", x.read(), 4);
    }

    /** "a PASS of a CELL to itself (at the second NAME)" */
    private static void toItself() {
        fault("cell a 1 1;pass a a 1;", 5, 18);
        fault("cell a 1 1;pass a a 0;", 5, 18);
        fault("cell a 1 1;pass a  a 11;", 5, 19);
        good("cell a 1 1;cell aa 1 1;pass a aa 1;pass aa a 1;");
    }

    // ---- what a text does

    /** "A text with a FAULT changes nothing but the tape" */
    private static void faultOfEachKindChangesNothing() {
        String[] texts = {"cell z 9 9;;", cells(13), "cell z 9 9;cell z 9 9;", "cell z 9 9;pass z y 1;", "cell z 9 9;rain 100;"};
        for (int kind = 1; kind <= 5; kind++) {
            WellVillages x = Check.over("cell a 2 50;cell b 1 9;pass a b 7;river a 300 9 9;rain 3 1;village v a 9=4-day;");
            x.run(9);
            x.tell(1, 0, 25);
            x.tell(2, 0, 99);
            x.hold(1);
            x.run(2);
            String was = State.of(x);
            Check.put(x, texts[kind - 1]);
            due("read() with fault " + kind, x.read(), kind);
            due("state behind fault " + kind, State.of(x), was);
            due("tape", x.count(7), 0);
            x.restore(1);
            due("the slot's day", x.count(4), 9);
        }
    }

    /** "else it is in place of the one ahead: day 0, WATER as told, no SALT, nothing is SEEN, .. SLOTS hold nothing." */
    private static void anewByATextWithoutFault() {
        String text = "cell a 2 50;cell b 1 9;pass a b 7;river a 300 9 9;rain 3 1;village v a 9=4-day;";
        WellVillages x = Check.over(text);
        String anew = State.of(x);
        x.run(9);
        x.pour(1, 700);
        x.tell(1, 0, 25);
        x.hold(0);
        x.hold(1);
        x.hold(2);
        Check.put(x, text);
        due("read() of the same text", x.read(), 0);
        due("all is as if new", State.of(x), anew);
        due("day", x.count(4), 0);
        due("WATER", x.cell(1, 0), 9);
        due("SALT", x.cell(0, 3), 0);
        due("SEEN", x.cell(0, 2), 0);
        due("TOOK", x.village(0, 0), 0);
        due("all that it TOOK", x.village(0, 5), 0);
        due("DRY", x.village(0, 1), 0);
        due("the first DRY day", x.village(0, 2), -2);
        due("TOLD", x.count(6), 0);
        due("off(1)", x.off(1), -1);
        due("SLOTS", x.count(8), 0);
        for (int slot = 0; slot <= 2; slot++) {
            due("restore(" + slot + ")", x.restore(slot) ? 1 : 0, 0);
        }
    }

    /** A text's answers are its own: nothing stays of texts that were read ahead of it, with faults or without. */
    private static void textsOneByOne() {
        String good = "cell a 1 9;cell b 1 8;pass a b 2;river b 7 3 1;rain 4;village v b 1=seen+at a;village w a 2=5;";
        String[] others = {"cell a 1 1;;", cells(13), "cell a 1 1;cell a 1 1;", "pass a b 1;", "rain 100;", "",
            cells(12) + "rain" + times(14, " 9") + ";", cells(6) + PASSES, villages(6), EIGHT + "river c 5 5 5;",
            LAW + "1/0+" + times(190, "1+") + "1;", LAW + "((((((1/0))))));village w a 1=1/0;"};
        int[] faults = {1, 2, 3, 4, 5, 0, 0, 0, 0, 0, 0, 0};
        WellVillages x = new WellVillages();
        Check.put(x, good);
        x.read();
        String anew = State.withTape(x);
        for (int i = 0; i < others.length; i++) {
            Check.put(x, others[i]);
            due("read() of <" + others[i] + ">", x.read(), faults[i]);
            Check.put(x, good);
            due("read() behind <" + others[i] + ">", x.read(), 0);
            due("place()", x.place(), -1);
            due("want(0)", x.want(0), 17);
            due("want(1)", x.want(1), 5);
            due("state behind <" + others[i] + ">", State.withTape(x), anew);
        }
        String full = LAW + "1" + times(194, "+1") + ";"; // 400 tokens, each law of 389 of them
        for (int i = 0; i < 5; i++) {
            Check.put(x, full);
            due("read() of a full text", x.read(), 0);
            due("want(0) of a full text", x.want(0), 195);
        }
    }
}
