/** "Texts" and promises 16 to 19 of ../shared/DOC.md: a test for each edge. */
public final class EdgesOfTextsTest {
    public static void main(String[] args) {
        put();
        wipe();
        orders();
        numbers();
        placesOfFaults();
        carryOut();
        carriedOrders();
        Due.end();
    }

    private static void put() {
        Due.test("16: its lowest 8 bits are the last character", EdgesOfTextsTest::lowestIsLast);
        Due.test("16: Appends", EdgesOfTextsTest::appends);
        Due.test("16: 1 character", EdgesOfTextsTest::oneCharacter);
        Due.test("16: 8 characters", EdgesOfTextsTest::eightCharacters);
        Due.test("16: BAD_VALUE if there is no character", EdgesOfTextsTest::noCharacter);
        Due.test("16: a code from 33", EdgesOfTextsTest::leastCode);
        Due.test("16: a code to 126", EdgesOfTextsTest::mostCode);
        Due.test("16: BAD_VALUE if a code is below 33", EdgesOfTextsTest::codeTooSmall);
        Due.test("16: BAD_VALUE if a code is above 126", EdgesOfTextsTest::codeTooLarge);
        Due.test("16: BAD_VALUE if a bit above 8 bits that are 0 is not 0", EdgesOfTextsTest::bitAbove);
        Due.test("16: BAD_VALUE if the lowest 8 bits are 0, and others are not", EdgesOfTextsTest::lowestAre0);
        Due.test("16: one wrong code of eight puts none of them", EdgesOfTextsTest::oneWrongOfEight);
        Due.test("16: a pad of 80", EdgesOfTextsTest::padOf80);
        Due.test("16: TOO_MANY if the pad would be longer than 80, by 1", EdgesOfTextsTest::padOf81);
        Due.test("16: TOO_MANY: then no character is put", EdgesOfTextsTest::noneOfTooMany);
        Due.test("16: BAD_VALUE before TOO_MANY", EdgesOfTextsTest::badOnFullPad);
        Due.test("16: put() is no change", EdgesOfTextsTest::putIsNoChange);
    }

    private static void wipe() {
        Due.test("17: Empties the pad", EdgesOfTextsTest::empties);
        Due.test("17: returns the length that it had: 0", EdgesOfTextsTest::lengthOf0);
        Due.test("17: returns the length that it had: 80", EdgesOfTextsTest::lengthOf80);
        Due.test("17: behind it 80 characters find room", EdgesOfTextsTest::roomBehindWipe);
        Due.test("17: wipe() is no change", EdgesOfTextsTest::wipeIsNoChange);
    }

    private static void orders() {
        Due.test("18: NONE if there is none: each order alone",
            () -> good("n1", "c0.0r", "c0.0b", "l0.0", "s0=1", "t1"));
        Due.test("18: text = order { \";\" order }", () -> good("n1;n1", "n1;c0.0r;l0.0;s0=1;t1", "t1;t1;t1;t1;t1;t1"));
        Due.test("18: if it is empty, it is the length of the text", () -> fault("", 0));
        Due.test("18: the text ends too early: behind a letter", () -> endsEarly("n", "c", "l", "s", "t"));
        Due.test("18: the text ends too early: behind a troop", () -> endsEarly("c0", "l0", "s0", "n1;c1"));
        Due.test("18: the text ends too early: behind a point or sign", () -> endsEarly("c0.", "l0.", "s0=", "t1;s9="));
        Due.test("18: the text ends too early: without a colour", () -> endsEarly("c0.0", "c0.1", "c0.99"));
        Due.test("18: the text ends too early: behind \";\"", () -> endsEarly("n1;", "c0.0r;", "t1;t1;"));
        Due.test("18: the longest text that ends too early", () -> fault(upTo80(';'), 80));
        Due.test("18: the longest text without a fault", () -> good(mostOrders(), upTo80('9')));
        Due.test("18: fault() changes nothing", EdgesOfTextsTest::faultChangesNothing);
    }

    private static void numbers() {
        Due.test("A digit is 0 to 9: 0", () -> good("c0.1r", "l0.1", "s0=1"));
        Due.test("A digit is 0 to 9: 9", () -> good("c9.1r", "l9.1", "s9=1"));
        Due.test("A digit is 0 to 9: not two", () -> {
            fault("c10.1r", 2);
            fault("l10.1", 2);
            fault("s10=1", 2);
        });
        Due.test("A digit is 0 to 9: not the signs beside them", () -> {
            fault("c/.1r", 1);
            fault("c:.1r", 1);
            fault("n/", 1);
            fault("n:", 1);
            fault("n1/", 2);
            fault("n1:", 2);
        });
        Due.test("a number 0 to 99: 0", () -> good("n0", "c0.0r", "l0.0", "s0=0", "t0"));
        Due.test("a number 0 to 99: 9 and 10", () -> good("n9", "n10", "c0.9r", "c0.10r", "s0=9", "s0=10"));
        Due.test("a number 0 to 99: 99", () -> good("n99", "c0.99b", "l0.99", "s0=99", "t99"));
        Due.test("a digit by which a number would be above 99", () -> {
            fault("n100", 3);
            fault("t999", 3);
            fault("c0.100r", 5);
            fault("l0.100", 5);
            fault("s0=100", 5);
        });
        Due.test("without leading zeros: 00", () -> fault("n00", 2));
        Due.test("without leading zeros: 01", () -> {
            fault("n01", 2);
            fault("t09", 2);
            fault("c0.01r", 4);
            fault("l0.01", 4);
            fault("s0=01", 4);
        });
        Due.test("no number at all", () -> {
            fault("n;", 1);
            fault("tt", 1);
            fault("c0.r", 3);
            fault("l0.;", 3);
            fault("s0==", 3);
            fault("n-1", 1);
            fault("n+1", 1);
        });
    }

    private static void placesOfFaults() {
        Due.test("the first character that cannot stand at its place: 0", () -> {
            fault("x", 0);
            fault("1", 0);
            fault(";", 0);
            fault("r", 0);
            fault("xn1", 0);
        });
        Due.test("it cannot stand there: a capital letter", () -> {
            fault("N1", 0);
            fault("C0.0r", 0);
            fault("c0.0R", 4);
            fault("c0.0B", 4);
        });
        Due.test("it cannot stand there: the signs beside the letters", () -> {
            for (String letter : new String[] {"m", "o", "b", "d", "k", "r", "u"}) {
                fault(letter + "1", 0);
            }
            fault("c0.0q", 4);
            fault("c0.0s", 4);
            fault("c0.0a", 4);
            fault("c0.0c", 4);
        });
        Due.test("it cannot stand there: behind a letter", () -> {
            fault("nn1", 1);
            fault("cr", 1);
            fault("l.", 1);
            fault("s=", 1);
            fault("t;", 1);
        });
        Due.test("it cannot stand there: \"=\" for \".\"", () -> {
            fault("c0=0r", 2);
            fault("l0=0", 2);
        });
        Due.test("it cannot stand there: \".\" for \"=\"", () -> fault("s0.1", 2));
        Due.test("it cannot stand there: a colour where none is due", () -> {
            fault("n1r", 2);
            fault("l0.0r", 4);
            fault("s0=1b", 4);
            fault("t1b", 2);
        });
        Due.test("it cannot stand there: two colours", () -> fault("c0.0rb", 5));
        Due.test("it cannot stand there: two orders without \";\"", () -> {
            fault("n1n1", 2);
            fault("c0.0rn1", 5);
        });
        Due.test("it cannot stand there: \";;\"", () -> fault("n1;;n1", 3));
        Due.test("it cannot stand there: \",\" and \":\" for \";\"", () -> {
            fault("n1,n1", 2);
            fault("n1:n1", 2);
        });
        Due.test("the first one, if there are more", () -> fault("n1;x;y", 3));
        Due.test("in the last order", () -> fault("n1;t2;c3.4g", 10));
        Due.test("at the last character of 80", () -> fault(upTo80('x'), 79));
    }

    private static void carryOut() {
        Due.test("19: one after the other", EdgesOfTextsTest::oneAfterTheOther);
        Due.test("19: up to the first one that returns an error", EdgesOfTextsTest::upToTheFirstError);
        Due.test("19: the one that returns an error changes nothing", EdgesOfTextsTest::errorChangesNothing);
        Due.test("19: and empties the pad", EdgesOfTextsTest::carryOutEmptiesPad);
        Due.test("19: and empties the pad, if an order returns an error", EdgesOfTextsTest::errorEmptiesPad);
        Due.test("19: This is a change (one, with all of them)", EdgesOfTextsTest::oneChange);
        Due.test("19: This is a change (also if none is carried out)", EdgesOfTextsTest::noneIsAChange);
        Due.test("19: Returns how many orders were carried out: 0", EdgesOfTextsTest::carriesNone);
        Due.test("19: Returns how many orders were carried out: 27, the most of a pad", EdgesOfTextsTest::carriesMost);
        Due.test("19: BAD_TEXT if the pad has a fault", EdgesOfTextsTest::badText);
        Due.test("19: BAD_TEXT if the pad is empty", EdgesOfTextsTest::badEmptyText);
        Due.test("19: BAD_TEXT if the text ends too early", EdgesOfTextsTest::badEarlyEnd);
        Due.test("19: BAD_TEXT: no order before the fault is carried out", EdgesOfTextsTest::noneBeforeTheFault);
        Due.test("19: (then it stays)", EdgesOfTextsTest::badTextStays);
        Due.test("19: a pad that was carried out is begun anew", EdgesOfTextsTest::padBegunAnew);
    }

    private static void carriedOrders() {
        Due.test("\"n\": troop() of a size", EdgesOfTextsTest::orderN);
        Due.test("\"n\": of a wrong size, and a sixth one", EdgesOfTextsTest::orderNErrors);
        Due.test("\"c\": with the colour 0 (\"r\")", EdgesOfTextsTest::orderCRed);
        Due.test("\"c\": or 1 (\"b\")", EdgesOfTextsTest::orderCBlue);
        Due.test("\"c\": it opens the gate", EdgesOfTextsTest::orderCOpens);
        Due.test("\"c\": of no troop, no scout, and one who cannot come", EdgesOfTextsTest::orderCErrors);
        Due.test("\"l\": lose() one", EdgesOfTextsTest::orderL);
        Due.test("\"l\": of no troop, no scout, and one who is lost", EdgesOfTextsTest::orderLErrors);
        Due.test("\"s\": resize() a troop", EdgesOfTextsTest::orderS);
        Due.test("\"s\": of no troop, and to a wrong size", EdgesOfTextsTest::orderSErrors);
        Due.test("\"t\": pass() minutes", EdgesOfTextsTest::orderT);
        Due.test("\"t\": 0 minutes, and beyond 9999", EdgesOfTextsTest::orderTErrors);
    }

    // ---- 16: put

    private static long number(String characters) {
        return Due.pieces(characters)[0];
    }

    /** 27 orders: as many as a pad of 80 characters holds. */
    private static String mostOrders() {
        return "t1" + ";t1".repeat(26);
    }

    /** A text without a fault, of 79 characters, and a last one. */
    private static String upTo80(char last) {
        return "t10;t10" + ";t1".repeat(24) + last;
    }

    private static ScoutGates padOf(int length) {
        ScoutGates x = new ScoutGates();
        while (x.count(Scene.LENGTH_OF_PAD) < length) {
            x.put('a');
        }
        return x;
    }

    private static void lowestIsLast() {
        ScoutGates x = new ScoutGates();
        x.put('n' * 256L + '1');
        Due.is("n1", x.fault(), Scene.NONE);
        x.wipe();
        x.put('1' * 256L + 'n');
        Due.is("1n", x.fault(), 0);
    }

    private static void appends() {
        ScoutGates x = new ScoutGates();
        Due.is("n", x.put('n'), 1);
        Due.is("1;n2", x.put(number("1;n2")), 5);
        Due.is("they read n1;n2", x.carryOut(), 2);
        Due.is("the sizes", x.ofTroop(0, Scene.SIZE) * 10 + x.ofTroop(1, Scene.SIZE), 12);
    }

    private static void oneCharacter() {
        Due.is("one", new ScoutGates().put('a'), 1);
    }

    private static void eightCharacters() {
        ScoutGates x = new ScoutGates();
        Due.is("eight", x.put(number("n1;c0.0r")), 8);
        Due.is("they are in their order", x.carryOut(), 2);
        Due.is("eight of the most code", x.put(number("~~~~~~~~")), 8);
    }

    private static void noCharacter() {
        ScoutGates x = new ScoutGates();
        Due.is("0", x.put(0), Scene.BAD_VALUE);
        Due.is("length", x.count(Scene.LENGTH_OF_PAD), 0);
    }

    private static void leastCode() {
        Due.is("33", new ScoutGates().put(33), 1);
        Due.is("33 of eight", new ScoutGates().put(0x2121212121212121L), 8);
    }

    private static void mostCode() {
        Due.is("126", new ScoutGates().put(126), 1);
        Due.is("126 of eight", new ScoutGates().put(0x7E7E7E7E7E7E7E7EL), 8);
    }

    private static void codeTooSmall() {
        ScoutGates x = new ScoutGates();
        Due.is("32", x.put(32), Scene.BAD_VALUE);
        Due.is("1", x.put(1), Scene.BAD_VALUE);
        Due.is("32 as the first of two", x.put(32 * 256 + 'a'), Scene.BAD_VALUE);
        Due.is("32 as the first of eight", x.put(0x2061616161616161L), Scene.BAD_VALUE);
        Due.is("length", x.count(Scene.LENGTH_OF_PAD), 0);
    }

    private static void codeTooLarge() {
        ScoutGates x = new ScoutGates();
        Due.is("127", x.put(127), Scene.BAD_VALUE);
        Due.is("128", x.put(128), Scene.BAD_VALUE);
        Due.is("255", x.put(255), Scene.BAD_VALUE);
        Due.is("127 as the first of two", x.put(127 * 256 + 'a'), Scene.BAD_VALUE);
        Due.is("225 as the first of eight", x.put(0xE161616161616161L), Scene.BAD_VALUE);
        Due.is("-1", x.put(-1), Scene.BAD_VALUE);
        Due.is("length", x.count(Scene.LENGTH_OF_PAD), 0);
    }

    private static void bitAbove() {
        ScoutGates x = new ScoutGates();
        Due.is("a character above", x.put('a' * 65536L + 'a'), Scene.BAD_VALUE);
        Due.is("the lowest bit above", x.put(65536L + 'a'), Scene.BAD_VALUE);
        Due.is("the highest bit", x.put(Long.MIN_VALUE + 'a'), Scene.BAD_VALUE);
        Due.is("above seven characters there is none", x.put(0x61616161616161L), 7);
    }

    private static void lowestAre0() {
        ScoutGates x = new ScoutGates();
        Due.is("a character above", x.put('a' * 256L), Scene.BAD_VALUE);
        Due.is("the highest bit", x.put(Long.MIN_VALUE), Scene.BAD_VALUE);
        Due.is("seven characters above", x.put(0x6161616161616100L), Scene.BAD_VALUE);
    }

    private static void oneWrongOfEight() {
        ScoutGates x = new ScoutGates();
        for (int place = 0; place < 8; place++) {
            long wrong = 0x6161616161616161L & ~(255L << 8 * place) | 31L << 8 * place;
            Due.is("at place " + place, x.put(wrong), Scene.BAD_VALUE);
        }
        Due.is("length", x.count(Scene.LENGTH_OF_PAD), 0);
    }

    private static void padOf80() {
        Due.is("72 and 8", padOf(72).put(number("aaaaaaaa")), 80);
        Due.is("79 and 1", padOf(79).put('a'), 80);
    }

    private static void padOf81() {
        Due.is("73 and 8", padOf(73).put(number("aaaaaaaa")), Scene.TOO_MANY);
        Due.is("79 and 2", padOf(79).put(number("aa")), Scene.TOO_MANY);
        Due.is("80 and 1", padOf(80).put('a'), Scene.TOO_MANY);
    }

    private static void noneOfTooMany() {
        ScoutGates x = padOf(78);
        Due.is("three", x.put(number("aaa")), Scene.TOO_MANY);
        Due.is("length", x.count(Scene.LENGTH_OF_PAD), 78);
        Due.is("two", x.put(number("aa")), 80);
    }

    private static void badOnFullPad() {
        Due.is("no character", padOf(80).put(0), Scene.BAD_VALUE);
        Due.is("a wrong code", padOf(80).put(32), Scene.BAD_VALUE);
        Due.is("a wrong code of two", padOf(79).put('a' * 256L + 127), Scene.BAD_VALUE);
    }

    private static void putIsNoChange() {
        ScoutGates x = padOf(80);
        Due.is("changes", x.count(Scene.UNDOS), 0);
    }

    // ---- 17: wipe

    private static void empties() {
        ScoutGates x = padOf(5);
        Due.is("wipe", x.wipe(), 5);
        Due.is("length", x.count(Scene.LENGTH_OF_PAD), 0);
        Due.is("fault", x.fault(), 0);
        Due.is("wiped", x.wipe(), 0);
    }

    private static void lengthOf0() {
        Due.is("wipe", new ScoutGates().wipe(), 0);
    }

    private static void lengthOf80() {
        Due.is("wipe", padOf(80).wipe(), 80);
    }

    private static void roomBehindWipe() {
        ScoutGates x = padOf(80);
        x.wipe();
        Due.write(x, mostOrders());
        Due.is("length", x.count(Scene.LENGTH_OF_PAD), 80);
        Due.is("fault", x.fault(), Scene.NONE);
    }

    private static void wipeIsNoChange() {
        ScoutGates x = Scene.troops(1);
        x.put('a');
        x.wipe();
        Due.is("changes", x.count(Scene.UNDOS), 1);
        x.undo();
        Due.is("not undone", x.count(Scene.LENGTH_OF_PAD), 0);
    }

    // ---- 18: fault

    private static void fault(String text, int due) {
        ScoutGates x = new ScoutGates();
        Due.write(x, text);
        Due.is("length of " + text, x.count(Scene.LENGTH_OF_PAD), text.length());
        Due.is("fault of " + text, x.fault(), due);
    }

    private static void good(String... texts) {
        for (String text : texts) {
            fault(text, Scene.NONE);
        }
    }

    private static void endsEarly(String... texts) {
        for (String text : texts) {
            fault(text, text.length());
        }
    }

    private static void faultChangesNothing() {
        ScoutGates x = Scene.troops(1);
        Due.write(x, "n1;n2");
        Due.is("no fault", x.fault(), Scene.NONE);
        Due.is("no fault again", x.fault(), Scene.NONE);
        Due.is("the pad stays", x.count(Scene.LENGTH_OF_PAD), 5);
        Due.is("nothing is carried out", x.count(1), 1);
        Due.is("no change", x.count(Scene.UNDOS), 1);
    }

    // ---- 19: carryOut

    private static void oneAfterTheOther() {
        ScoutGates x = new ScoutGates();
        Due.is("carried out", Scene.carryOut(x, "n2;c0.0r;l0.1;t21;n1"), 5);
        Due.is("the gate opened in its minute", x.ofTroop(0, Scene.HIKES), 1);
        Due.is("troops", x.count(1), 2);
    }

    private static void upToTheFirstError() {
        ScoutGates x = new ScoutGates();
        Due.is("carried out", Scene.carryOut(x, "n1;t5;n17;t5;n1"), 2);
        Due.is("minutes", x.count(0), 5);
        Due.is("troops", x.count(1), 1);
    }

    private static void errorChangesNothing() {
        ScoutGates x = Scene.troops(2);
        ScoutGates y = Scene.troops(2);
        Due.is("with an error", Scene.carryOut(x, "c0.0b;c0.0r"), 1);
        Due.is("without one", Scene.carryOut(y, "c0.0b"), 1);
        Due.holds("they are the same", Scene.areTheSame(x, y));
    }

    private static void carryOutEmptiesPad() {
        ScoutGates x = new ScoutGates();
        Scene.carryOut(x, "n1;n2");
        Due.is("length", x.count(Scene.LENGTH_OF_PAD), 0);
        Due.is("once more", x.carryOut(), Scene.BAD_TEXT);
    }

    private static void errorEmptiesPad() {
        ScoutGates x = new ScoutGates();
        Scene.carryOut(x, "n1;n0;n2");
        Due.is("length", x.count(Scene.LENGTH_OF_PAD), 0);
        Scene.carryOut(x, "n0");
        Due.is("length behind none", x.count(Scene.LENGTH_OF_PAD), 0);
    }

    private static void oneChange() {
        ScoutGates x = Scene.troops(1);
        Scene.carryOut(x, "n1;n2;t3;s0=4;l0.0;c0.0r");
        Due.is("changes", x.count(Scene.UNDOS), 2);
        Due.is("undone", x.undo(), 1);
        Due.is("all of them", x.count(1) * 100 + x.count(0) * 10 + x.count(2), 100);
    }

    private static void noneIsAChange() {
        ScoutGates x = Scene.troops(1);
        Due.is("none", Scene.carryOut(x, "n0;n1"), 0);
        Due.is("changes", x.count(Scene.UNDOS), 2);
        Due.is("undone", x.undo(), 1);
        Due.is("troops", x.count(1), 1);
    }

    private static void carriesNone() {
        Due.is("bad size", Scene.carryOut(new ScoutGates(), "n0"), 0);
        Due.is("no troop", Scene.carryOut(new ScoutGates(), "c0.0r;n1"), 0);
    }

    private static void carriesMost() {
        ScoutGates x = new ScoutGates();
        Due.is("length", mostOrders().length(), 80);
        Due.is("carried out", Scene.carryOut(x, mostOrders()), 27);
        Due.is("minutes", x.count(0), 27);
    }

    private static void badText() {
        Due.is("a wrong character", Scene.carryOut(new ScoutGates(), "n1x"), Scene.BAD_TEXT);
        Due.is("a number above 99", Scene.carryOut(new ScoutGates(), "n100"), Scene.BAD_TEXT);
    }

    private static void badEmptyText() {
        ScoutGates x = new ScoutGates();
        Due.is("empty", x.carryOut(), Scene.BAD_TEXT);
        Due.is("no change", x.count(Scene.UNDOS), 0);
    }

    private static void badEarlyEnd() {
        Due.is("behind ;", Scene.carryOut(new ScoutGates(), "n1;"), Scene.BAD_TEXT);
        Due.is("without a colour", Scene.carryOut(new ScoutGates(), "n1;c0.0"), Scene.BAD_TEXT);
    }

    private static void noneBeforeTheFault() {
        ScoutGates x = new ScoutGates();
        Due.is("the fault is last", Scene.carryOut(x, "n1;t5;x"), Scene.BAD_TEXT);
        Due.is("troops and minutes", x.count(1) + x.count(0), 0);
        Due.is("no change", x.count(Scene.UNDOS), 0);
    }

    private static void badTextStays() {
        ScoutGates x = new ScoutGates();
        Due.is("ends too early", Scene.carryOut(x, "n1;"), Scene.BAD_TEXT);
        Due.is("length", x.count(Scene.LENGTH_OF_PAD), 3);
        Due.write(x, "n2");
        Due.is("goes on", x.carryOut(), 2);
    }

    private static void padBegunAnew() {
        ScoutGates x = new ScoutGates();
        Scene.carryOut(x, "n1;n2;n3");
        Due.write(x, "t7");
        Due.is("length", x.count(Scene.LENGTH_OF_PAD), 2);
        Due.is("carried out", x.carryOut(), 1);
        Due.is("troops and minutes", x.count(1) * 10 + x.count(0), 37);
    }

    private static void orderN() {
        ScoutGates x = new ScoutGates();
        Due.is("carried out", Scene.carryOut(x, "n1;n16"), 2);
        Due.is("sizes", x.ofTroop(0, Scene.SIZE) * 100 + x.ofTroop(1, Scene.SIZE), 116);
    }

    private static void orderNErrors() {
        Due.is("size 0", Scene.carryOut(new ScoutGates(), "n0"), 0);
        Due.is("size 17", Scene.carryOut(new ScoutGates(), "n17"), 0);
        Due.is("the sixth", Scene.carryOut(new ScoutGates(), "n1;n1;n1;n1;n1;n1;t1"), 5);
    }

    private static void orderCRed() {
        ScoutGates x = Scene.troops(2);
        Due.is("carried out", Scene.carryOut(x, "c0.1r"), 1);
        Due.is("how", Scene.how(x, 1), Scene.INSIDE);
    }

    private static void orderCBlue() {
        ScoutGates x = Scene.troops(2, 16);
        Due.is("carried out", Scene.carryOut(x, "c0.1b;c1.15b"), 2);
        Due.is("how", Scene.how(x, 1), Scene.OUTSIDE);
        Due.is("of 15 in troop 1", x.of(1, 15, Scene.HOW), Scene.OUTSIDE);
    }

    private static void orderCOpens() {
        ScoutGates x = Scene.troops(1);
        Due.is("carried out", Scene.carryOut(x, "c0.0r;t30;c0.0b"), 3);
        Due.is("hikes", x.count(2), 2);
    }

    private static void orderCErrors() {
        Due.is("no troop", Scene.carryOut(Scene.troops(2), "c1.0r"), 0);
        Due.is("no troop 9", Scene.carryOut(Scene.troops(2), "c9.0r"), 0);
        Due.is("no scout", Scene.carryOut(Scene.troops(2), "c0.2r"), 0);
        Due.is("no scout 99", Scene.carryOut(Scene.troops(2), "c0.99r"), 0);
        Due.is("inside", Scene.carryOut(Scene.troops(2), "c0.0r;c0.0r"), 1);
    }

    private static void orderL() {
        ScoutGates x = Scene.troops(2, 16);
        Due.is("carried out", Scene.carryOut(x, "l0.1;l1.15"), 2);
        Due.is("how", Scene.how(x, 1), Scene.LOST);
        Due.is("of 15 in troop 1", x.of(1, 15, Scene.HOW), Scene.LOST);
    }

    private static void orderLErrors() {
        Due.is("no troop", Scene.carryOut(Scene.troops(2), "l1.0"), 0);
        Due.is("no scout", Scene.carryOut(Scene.troops(2), "l0.2"), 0);
        Due.is("no scout 99", Scene.carryOut(Scene.troops(2), "l0.99"), 0);
        Due.is("lost", Scene.carryOut(Scene.troops(2), "l0.0;l0.0"), 1);
    }

    private static void orderS() {
        ScoutGates x = Scene.troops(2, 2);
        Due.is("carried out", Scene.carryOut(x, "s0=16;s1=1"), 2);
        Due.is("next sizes", x.ofTroop(0, Scene.NEXT_SIZE) * 10 + x.ofTroop(1, Scene.NEXT_SIZE), 161);
    }

    private static void orderSErrors() {
        Due.is("no troop", Scene.carryOut(Scene.troops(2), "s1=2"), 0);
        Due.is("size 0", Scene.carryOut(Scene.troops(2), "s0=0"), 0);
        Due.is("size 17", Scene.carryOut(Scene.troops(2), "s0=17"), 0);
    }

    private static void orderT() {
        ScoutGates x = new ScoutGates();
        Due.is("carried out", Scene.carryOut(x, "t99;t1;t10"), 3);
        Due.is("minutes", x.count(0), 110);
    }

    private static void orderTErrors() {
        Due.is("0 minutes", Scene.carryOut(new ScoutGates(), "t0"), 0);
        ScoutGates x = new ScoutGates();
        Scene.pass(x, 9990);
        Due.is("beyond 9999", Scene.carryOut(x, "t9;t1"), 1);
        Due.is("minutes", x.count(0), 9999);
    }
}
