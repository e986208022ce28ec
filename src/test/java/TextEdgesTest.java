/** Each sentence of the document that names an edge, in "Texts", and in promises 19 to 22. */
public final class TextEdgesTest {
    private static final int BAD_VALUE = -2, BAD_TEXT = -3, TOO_MANY = -4, NONE = -6;
    private static final String DIGITS = "0123456789";

    public static void main(String[] args) {
        codesOfEachCharacter();
        noCharacter();
        oneToEightCharacters();
        nothingAboveZeroBits();
        lowestBitsAreTheLast();
        sixtyCharacters();
        badBeforeTooMany();
        refusedPutsNothing();
        wipeOfEmptyAndFull();
        whatCanStandWhere();
        emptyPad();
        endsTooEarly();
        endsTooEarlyAtSixty();
        faultAtTheLastOfSixty();
        firstOfSeveralFaults();
        numberRange();
        withoutLeadingZeros();
        carryOutOfFaults();
        carryOutOfOne();
        upToTheFirstError();
        ordersAtTheirEdges();
        noneIsNoError();
        refusedOrderChangesNothing();
        emptiesThePad();
        oneChange();
        oneChangeOfAFullHistory();
        orderRecordsNothing();
        sixtyCharactersOfOrders();
        Check.end();
    }

    private static SingingWires typed(String text) {
        SingingWires x = new SingingWires();
        Check.type(x, text);
        return x;
    }

    private static String repeated(String part, int times) {
        StringBuilder all = new StringBuilder();
        for (int i = 0; i < times; i++) {
            all.append(part);
        }
        return all.toString();
    }

    // ---- put, wipe

    private static void codesOfEachCharacter() {
        Check.about("promise 19, \"BAD_VALUE if .. a code is not 33 to 126\"");
        for (int many = 1; many <= 8; many++) {
            for (int index = 0; index < many; index++) {
                for (int code : new int[] {1, 31, 32, 33, 34, 125, 126, 127, 128, 255}) {
                    long good = Check.packed("hhhhhhhh".substring(0, many));
                    int shift = 8 * index;
                    long characters = good & ~(255L << shift) | (long) code << shift;
                    SingingWires x = new SingingWires();
                    boolean taken = code >= 33 && code <= 126;
                    Check.due(code + " as " + index + " from the end of " + many, x.put(characters),
                            taken ? many : BAD_VALUE);
                    Check.due("the pad", x.count(9), taken ? many : 0);
                }
            }
        }
    }

    private static void noCharacter() {
        Check.about("promise 19, \"BAD_VALUE if there is no character\"");
        SingingWires x = new SingingWires();
        Check.due("0", x.put(0), BAD_VALUE);
        x.put('h');
        Check.due("0", x.put(0), BAD_VALUE);
        Check.due("the pad", x.count(9), 1);
    }

    private static void oneToEightCharacters() {
        Check.about("promise 19, \"characters: 1 to 8 characters\"");
        for (int many = 1; many <= 8; many++) {
            SingingWires x = new SingingWires();
            Check.due(many + "", x.put(Check.packed("~!~!~!~!".substring(0, many))), many);
            Check.due("twice", x.put(Check.packed("~!~!~!~!".substring(0, many))), 2 * many);
        }
    }

    private static void nothingAboveZeroBits() {
        Check.about("promise 19, \"or a bit above 8 bits that are 0 is not 0\"");
        for (int many = 0; many < 8; many++) {
            long good = Check.packed("hhhhhhhh".substring(0, many));
            for (int bit = 8 * many + 8; bit < 64; bit++) {
                SingingWires x = new SingingWires();
                Check.due("bit " + bit + " above " + many, x.put(good | 1L << bit), BAD_VALUE);
                Check.due("the pad", x.count(9), 0);
            }
            if (many < 7) {
                SingingWires x = new SingingWires();
                Check.due("a character above " + many, x.put(good | (long) 'h' << 8 * many + 8), BAD_VALUE);
                Check.due("the pad", x.count(9), 0);
            }
        }
        SingingWires x = new SingingWires();
        for (long characters : new long[] {-1, Long.MIN_VALUE, Long.MAX_VALUE, Integer.MIN_VALUE}) {
            Check.due("put(" + characters + ")", x.put(characters), BAD_VALUE);
        }
    }

    private static void lowestBitsAreTheLast() {
        Check.about("promise 19, \"its lowest 8 bits are the last character\"");
        SingingWires x = new SingingWires();
        x.put(('g' << 16) | ('1' << 8) | '7');
        Check.due("carryOut", x.carryOut(), 1);
        Check.due("g17", x.count(3), 17);
        x.put(Check.packed("g5;g19;g"));
        x.put('1');
        x.put('8');
        Check.due("carryOut", x.carryOut(), 3);
        Check.due("g18, of three puts", x.count(3), 18);
    }

    private static void sixtyCharacters() {
        Check.about("promise 19, \"TOO_MANY if the pad would be longer than 60\"");
        for (int more = 1; more <= 8; more++) {
            String rest = "hhhhhhhh".substring(0, more);
            SingingWires x = typed(repeated("h", 60 - more));
            Check.due(more + " up to 60", x.put(Check.packed(rest)), 60);
            SingingWires y = typed(repeated("h", 61 - more));
            Check.due(more + " up to 61", y.put(Check.packed(rest)), TOO_MANY);
            Check.due("none of them is appended", y.count(9), 61 - more);
            SingingWires z = typed(repeated("h", 59 - more));
            Check.due(more + " up to 59", z.put(Check.packed(rest)), 59);
            Check.due("one more", z.put('h'), 60);
            Check.due("and one more", z.put('h'), TOO_MANY);
        }
        SingingWires x = typed(repeated("h", 60));
        x.wipe();
        Check.due("after wipe", x.put('h'), 1);
    }

    private static void badBeforeTooMany() {
        Check.about("promise 19, BAD_VALUE comes before TOO_MANY");
        SingingWires x = typed(repeated("h", 60));
        Check.due("no character", x.put(0), BAD_VALUE);
        Check.due("32", x.put(32), BAD_VALUE);
        Check.due("127", x.put(127), BAD_VALUE);
        Check.due("a bit above", x.put(1L << 63 | 'h'), BAD_VALUE);
        Check.due("33", x.put(33), TOO_MANY);
    }

    private static void refusedPutsNothing() {
        Check.about("promise 19, a refused put leaves the text as it was");
        SingingWires x = typed("g1");
        x.put(Check.packed("7") << 8);
        x.put(Check.packed("7") << 8 | ' ');
        x.put(Check.packed("7777777") << 8 | 127);
        Check.due("carryOut", x.carryOut(), 1);
        Check.due("g1", x.count(3), 1);
        SingingWires y = typed(repeated("h;", 28) + "g1;");
        Check.due("put", y.put(Check.packed("h;")), TOO_MANY);
        Check.due("put", y.put('h'), 60);
        Check.due("fault", y.fault(), NONE);
    }

    private static void wipeOfEmptyAndFull() {
        Check.about("promise 20, \"returns the length that it had\"");
        SingingWires x = new SingingWires();
        Check.due("empty", x.wipe(), 0);
        Check.type(x, "g");
        Check.due("one", x.wipe(), 1);
        Check.due("empty again", x.wipe(), 0);
        Check.type(x, repeated("~", 60));
        Check.due("full", x.wipe(), 60);
        Check.due("the pad", x.count(9), 0);
        Check.due("fault", x.fault(), 0);
        Check.due("no change", x.count(10), 0);
    }

    // ---- fault

    /** After this start, which is no fault yet, these characters alone can stand. */
    private static void canStand(String start, String those) {
        for (char c = 33; c <= 126; c++) {
            int fault = typed(start + c).fault();
            boolean can = fault != start.length();
            Check.due(c + " after " + start, can ? 1 : 0, those.indexOf(c) >= 0 ? 1 : 0);
            int more = typed(start + c + "~").fault();
            Check.due(c + " after " + start + ", with more after it", more, start.length() + (can ? 1 : 0));
        }
    }

    private static void whatCanStandWhere() {
        Check.about("\"the index of the first character that cannot stand at its place\"");
        canStand("", "ghtpd");
        canStand("h", ";");
        canStand("h;", "ghtpd");
        for (String letter : new String[] {"g", "t", "d"}) {
            canStand(letter, DIGITS);
            canStand(letter + "0", ";");
            canStand(letter + "1", DIGITS + ";");
            canStand(letter + "9", DIGITS + ";");
            canStand(letter + "10", DIGITS + ";");
            canStand(letter + "9999", DIGITS + ";");
            canStand(letter + "10000", ";");
            canStand(letter + "99999", ";");
            canStand(letter + "5;", "ghtpd");
        }
        canStand("p", DIGITS);
        canStand("p0", "=");
        canStand("p1", DIGITS + "=");
        canStand("p9999", DIGITS + "=");
        canStand("p99999", "=");
        canStand("p1=", DIGITS);
        canStand("p1=0", ";");
        canStand("p1=7", DIGITS + ";");
        canStand("p1=9999", DIGITS + ";");
        canStand("p1=10000", ";");
        canStand("p1=7;", "ghtpd");
        canStand("p1=7;p2", DIGITS + "=");
        canStand("p1=7;g2", DIGITS + ";");
    }

    private static void fault(String text, int want) {
        Check.due("fault of " + text, typed(text).fault(), want);
    }

    private static void emptyPad() {
        Check.about("\"(also if it is empty), it is the length of the text\"");
        SingingWires x = new SingingWires();
        Check.due("a new one", x.fault(), 0);
        Check.type(x, "h");
        Check.due("not empty", x.fault(), NONE);
        x.carryOut();
        Check.due("carried out", x.fault(), 0);
    }

    private static void endsTooEarly() {
        Check.about("\"if there is none and the text ends too early .., it is the length of the text\"");
        fault("g", 1);
        fault("t", 1);
        fault("d", 1);
        fault("p", 1);
        fault("p1", 2);
        fault("p0", 2);
        fault("p99999", 6);
        fault("p1=", 3);
        fault("h;", 2);
        fault("g0;", 3);
        fault("p1=2;", 5);
        fault("p1=2;p", 6);
        fault("p1=2;p3", 7);
        fault("p1=2;p3=", 8);
        fault("h", NONE);
        fault("g0", NONE);
        fault("t1", NONE);
        fault("d99999", NONE);
        fault("p1=2", NONE);
    }

    private static void endsTooEarlyAtSixty() {
        Check.about("the length of the text, of a full pad");
        fault(repeated("h;", 30), 60);
        fault(repeated("h;", 29) + "g;", 59);
        fault(repeated("h;", 28) + "h;;p", 58);
        fault(repeated("h;", 29) + "p0", 60);
        fault(repeated("h;", 29) + "g0", NONE);
        fault(repeated("h;", 28) + "p0=", 59);
        fault(repeated("h;", 28) + "p0=0", NONE);
    }

    private static void faultAtTheLastOfSixty() {
        Check.about("the first and the last index of a full pad");
        fault(repeated("h;", 29) + "hh", 59);
        fault(repeated("h;", 29) + "h~", 59);
        fault("~" + repeated(";h", 29) + ";", 0);
        fault("h~" + repeated(";h", 29), 1);
    }

    private static void firstOfSeveralFaults() {
        Check.about("\"the first character .. when the text is read from left to right\"");
        fault("h;x;y", 2);
        fault("g01;g02", 2);
        fault("hh;g", 1);
        fault("t999999;x", 6);
        fault("p1;p2;", 2);
        fault("g;h;", 1);
        fault("h;g", 3);
    }

    private static void numberRange() {
        Check.about("\"A number is 0 to 99999\" and \"a digit by which a number would be above 99999\"");
        for (String before : new String[] {"g", "t", "d", "p1=", "h;g", "p99999=99999;t"}) {
            int start = before.length();
            fault(before + "0", NONE);
            fault(before + "99999", NONE);
            fault(before + "100000", start + 5);
            fault(before + "999990", start + 5);
            fault(before + "99999;h", NONE);
            fault(before + "9999999999", start + 5);
            fault(before + "12345", NONE);
            fault(before + "4294967296", start + 5);
        }
        fault("p0=0", NONE);
        fault("p99999=0", NONE);
        fault("p100000=0", 6);
        fault("p999999", 6);
    }

    private static void withoutLeadingZeros() {
        Check.about("\"without leading zeros\"");
        for (String before : new String[] {"g", "t", "d", "p1=", "h;g"}) {
            int start = before.length();
            fault(before + "0", NONE);
            fault(before + "00", start + 1);
            fault(before + "01", start + 1);
            fault(before + "0;h", NONE);
            fault(before + "10", NONE);
            fault(before + "100", NONE);
            fault(before + "10000", NONE);
        }
        fault("p0=5", NONE);
        fault("p00=5", 2);
        fault("p05=5", 2);
        fault("p10=5", NONE);
    }

    // ---- carryOut

    private static void carryOutOfFaults() {
        Check.about("promise 22, \"BAD_TEXT if the pad has a fault (then it stays)\"");
        for (String text : new String[] {"", "g", "h;", "g1;g01", "g1;x", "g1;p1", "g1;g100000", repeated("h;", 30)}) {
            SingingWires x = new SingingWires();
            Check.type(x, text);
            Check.due("carryOut of " + text, x.carryOut(), BAD_TEXT);
            Check.due("it stays", x.count(9), text.length());
            Check.due("place", x.count(3), 0);
            Check.due("no change", x.count(10), 0);
        }
        SingingWires x = typed("g7;g");
        x.carryOut();
        Check.type(x, "8");
        Check.due("mended", x.carryOut(), 2);
        Check.due("place", x.count(3), 8);
    }

    private static void carryOutOfOne() {
        Check.about("promise 22, \"Returns how many orders were carried out\"");
        Check.due("one", typed("g5").carryOut(), 1);
        Check.due("two", typed("g5;g5").carryOut(), 2);
        Check.due("none of one", typed("h").carryOut(), 0);
        Check.due("none of two", typed("h;g5").carryOut(), 0);
    }

    /** One order is carried out, then comes one that returns an error, then one that is not reached. */
    private static void stops(String order, boolean wire, boolean broken) {
        SingingWires x = new SingingWires();
        if (wire) {
            x.wire(5, 100, 5, 50000, 100);
        }
        if (broken) {
            x.wire(4, 100, 5, 100, 100);
            x.load(4, 1000);
        }
        Check.type(x, "g" + (broken ? 4 : 5) + ";" + order + ";g9");
        Check.due("carryOut before " + order, x.carryOut(), 1);
        Check.due("place", x.count(3), broken ? 4 : 5);
        Check.due("the pad", x.count(9), 0);
        Check.due("day", x.count(0), 0);
    }

    private static void goesOn(String order) {
        SingingWires x = new SingingWires();
        x.wire(5, 100, 5, 50000, 100);
        Check.type(x, "g5;" + order + ";g9");
        Check.due("carryOut with " + order, x.carryOut(), 3);
        Check.due("place", x.count(3), 9);
    }

    private static void upToTheFirstError() {
        Check.about("promise 22, \"up to the first one that returns an error\"");
        stops("g20", true, false);
        stops("g99999", true, false);
        stops("h", false, false);
        stops("t100", false, false);
        stops("t50001", true, false);
        stops("t99999", true, false);
        stops("t0", false, true);
        stops("p20=0", true, false);
        stops("p99999=1001", true, false);
        stops("p0=1001", true, false);
        stops("d0", true, false);
        stops("d101", true, false);
        stops("d99999", true, false);
    }

    private static void ordersAtTheirEdges() {
        Check.about("promise 22, orders that return no error, at their edges");
        goesOn("g0");
        goesOn("g19");
        goesOn("h");
        goesOn("t0");
        goesOn("t50000");
        goesOn("p0=0");
        goesOn("p0=1000");
        goesOn("p19=1000");
        goesOn("d1");
        goesOn("d100");
    }

    private static void noneIsNoError() {
        Check.about("\"NONE (-6) is not an error\", of an order");
        SingingWires x = new SingingWires();
        x.wire(0, 100, 5, 100, 100);
        x.load(0, 11);
        Check.type(x, "h;d1;h;g3");
        Check.due("carryOut", x.carryOut(), 4);
        Check.due("heard to be broken", x.known(0, 3), 1);
        Check.due("heard on", x.known(0, 0), 1);
        Check.due("place", x.count(3), 3);
    }

    private static void refusedOrderChangesNothing() {
        Check.about("an order that returns an error changes nothing");
        for (String order : new String[] {"g20", "t3001", "t99999", "p3=1001", "p20=5", "d0", "d101"}) {
            Twin.allTheSame("g4;d3;" + order, x -> ordered(x, "g4;d3;" + order), x -> ordered(x, "g4;d3"));
        }
        Twin.allTheSame("h without a wire", x -> ordered(x, "g5;h;d3"), x -> ordered(x, "g5"));
    }

    private static void ordered(SingingWires x, String text) {
        x.wire(4, 100, 5, 3000, 1500);
        x.load(4, 20);
        Check.type(x, text);
        x.carryOut();
    }

    private static void emptiesThePad() {
        Check.about("promise 22, \"and empties the pad\"");
        for (String text : new String[] {"g5", "h", "g20;h", repeated("g1;", 19) + "g19"}) {
            SingingWires x = typed(text);
            x.carryOut();
            Check.due("after " + text, x.count(9), 0);
            Check.due("there is nothing to carry out", x.carryOut(), BAD_TEXT);
            Check.due("there is room again", x.put(Check.packed("hhhhhhhh")), 8);
        }
    }

    private static void oneChange() {
        Check.about("promise 22, \"(one, with all of them; also if none is carried out)\"");
        String[] texts = {"g5", "g5;g6;g7;g8;g9;g10;g11;g12", "h", "g20;g5", "d0", "g5;g20"};
        for (String text : texts) {
            SingingWires x = new SingingWires();
            x.walk(3);
            int[] before = Twin.state(x);
            Check.type(x, text);
            x.carryOut();
            Check.due("changes after " + text, x.count(10), 2);
            Check.due("undo", x.undo(), 1);
            Check.same("after undo of " + text, Twin.state(x), before);
            Check.due("the pad does not come back", x.count(9), 0);
        }
    }

    private static void oneChangeOfAFullHistory() {
        Check.about("promises 22 and 23, a text is one state of a full history");
        SingingWires x = new SingingWires();
        for (int place = 1; place <= 6; place++) {
            x.walk(place);
        }
        Check.type(x, "g7;g8;g9");
        x.carryOut();
        Check.due("changes", x.count(10), 6);
        Check.due("undo", x.undo(), 5);
        Check.due("place", x.count(3), 6);
        for (int left = 4; left >= 0; left--) {
            Check.due("undo", x.undo(), left);
            Check.due("place", x.count(3), left + 1);
        }
    }

    private static void orderRecordsNothing() {
        Check.about("promise 23, \"An order of a text records nothing by itself\"");
        SingingWires x = new SingingWires();
        x.wire(0, 100, 5, 3000, 1500);
        Check.type(x, "h;t1400;p3=5;d2;g4");
        Check.due("carryOut", x.carryOut(), 5);
        Check.due("changes", x.count(10), 2);
    }

    private static void sixtyCharactersOfOrders() {
        Check.about("the longest texts");
        SingingWires x = new SingingWires();
        x.wire(0, 100, 5, 3000, 1500);
        Check.type(x, repeated("h;", 29) + "g7");
        Check.due("thirty orders", x.carryOut(), 30);
        Check.due("the last one, too", x.count(3), 7);
        Check.type(x, repeated("g1;g2;", 10) + "");
        Check.due("ends too early", x.carryOut(), BAD_TEXT);
        x.wipe();
        Check.type(x, "g10;" + repeated("p19=1000;", 6) + "h");
        Check.due("no wire at 10", x.carryOut(), 7);
        Check.due("place", x.count(3), 10);
        Check.type(x, repeated("d100;", 11) + "d100");
        Check.due("twelve hundred days", x.carryOut(), 12);
        Check.due("day", x.count(0), 1200);
    }
}
