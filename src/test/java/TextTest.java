/** Promises 19 to 22: put, wipe, fault, carryOut. */
public final class TextTest {
    public static void main(String[] args) {
        put();
        putErrors();
        putLimit();
        wipe();
        fault();
        carryOut();
        carryOutStops();
        carryOutIsOneChange();
        carryOutFault();
        everyOrder();
        Check.end();
    }

    private static void put() {
        Check.about("promise 19, put");
        SingingWires x = new SingingWires();
        Check.due("one", x.put('g'), 1);
        Check.due("order of characters", x.put(Check.packed("12;h")), 5);
        Check.due("fault", x.fault(), SingingWires.NONE);
        Check.due("carried out", x.carryOut(), 1);
        Check.due("count(3)", x.count(3), 12);
        Check.due("eight, from ! to ~", x.put(Check.packed("!~!~!~!~")), 8);
        Check.due("count(9)", x.count(9), 8);
        Check.due("no change", x.count(10), 1);
    }

    private static void putErrors() {
        SingingWires x = new SingingWires();
        long[] bad = {0, 32, 127, 128, 255, -1, Long.MIN_VALUE, Long.MAX_VALUE, 'g' << 8, ('g' << 16) | 'h',
            (1L << 40) | 'h', (1L << 63) | 'h', ((long) 'g' << 56) | 'h', 0xE768686868686868L, ('g' << 8) | 31,
            (' ' << 8) | 'g', 0x6768686868686800L};
        for (long characters : bad) {
            Check.due("put(" + characters + ")", x.put(characters), SingingWires.BAD_VALUE);
        }
        Check.due("count(9)", x.count(9), 0);
    }

    private static void putLimit() {
        SingingWires x = new SingingWires();
        for (int i = 1; i <= 7; i++) {
            Check.due("put", x.put(Check.packed("hhhhhhhh")), 8 * i);
        }
        Check.due("61", x.put(Check.packed("hhhhh")), SingingWires.TOO_MANY);
        Check.due("count(9)", x.count(9), 56);
        Check.due("60", x.put(Check.packed("hhhh")), 60);
        Check.due("61", x.put('h'), SingingWires.TOO_MANY);
        Check.due("bad before too many", x.put(0), SingingWires.BAD_VALUE);
        Check.due("bad before too many", x.put(' '), SingingWires.BAD_VALUE);
        Check.due("wipe", x.wipe(), 60);
    }

    private static void wipe() {
        Check.about("promise 20, wipe");
        SingingWires x = new SingingWires();
        Check.due("empty", x.wipe(), 0);
        x.put(Check.packed("zzz"));
        Check.due("three", x.wipe(), 3);
        Check.due("count(9)", x.count(9), 0);
        Check.due("no change", x.count(10), 0);
        x.put('h');
        Check.due("only the new one", x.fault(), SingingWires.NONE);
        Check.due("wipe", x.wipe(), 1);
    }

    private static void fault() {
        Check.about("promise 21, fault");
        int none = SingingWires.NONE;
        faultOf("", 0);
        faultOf("h", none);
        faultOf("h;", 2);
        faultOf("h;h", none);
        faultOf(";", 0);
        faultOf("h;;h", 2);
        faultOf("hh", 1);
        faultOf("h1", 1);
        faultOf("x", 0);
        faultOf("H", 0);
        faultOf("5", 0);
        faultOf("g", 1);
        faultOf("g;", 1);
        faultOf("g0", none);
        faultOf("g00", 2);
        faultOf("g01", 2);
        faultOf("g10", none);
        faultOf("t99999", none);
        faultOf("t100000", 6);
        faultOf("t999990;h", 6);
        faultOf("t111111", 6);
        faultOf("t12345678", 6);
        faultOf("t99999;d99999", none);
        faultOf("d-1", 1);
        faultOf("g1=2", 2);
        faultOf("d7=2", 2);
        faultOf("p1", 2);
        faultOf("p1;h", 2);
        faultOf("p=", 1);
        faultOf("p1=", 3);
        faultOf("p1=;", 3);
        faultOf("p1=0", none);
        faultOf("p0=05", 4);
        faultOf("p00=5", 2);
        faultOf("p99999=99999", none);
        faultOf("p100000=1", 6);
        faultOf("p1=100000", 8);
        faultOf("p1=2=3", 4);
        faultOf("p1=2;p", 6);
        faultOf("p1==2", 3);
        faultOf("g1;h;t2;p3=4;d5", none);
        faultOf("g/", 1);
        faultOf("g:", 1);
        faultOf("p1==", 3);
        faultOf("hg", 1);
        faultOf("h;h;h;h;h;h;h;h;h;h;h;h;h;h;h;h;h;h;h;h;h;h;h;h;h;h;h;h;h;h;", 60);
        SingingWires x = new SingingWires();
        Check.due("fault asked twice", x.fault() + x.fault(), 0);
        x.put(Check.packed("p1"));
        Check.due("p1", x.fault(), 2);
        x.put(Check.packed("=2"));
        Check.due("p1=2", x.fault(), none);
    }

    private static void faultOf(String text, int want) {
        SingingWires x = new SingingWires();
        Check.type(x, text);
        Check.due("fault of " + text, x.fault(), want);
        Check.due("the pad stays", x.count(9), text.length());
        Check.due("no change", x.count(10), 0);
    }

    private static void carryOut() {
        Check.about("promise 22, carryOut");
        SingingWires x = new SingingWires();
        x.wire(5, 80, 3, 9000, 2000);
        Check.type(x, "g5;h;t3000;p9=900;d2");
        Check.due("carryOut", x.carryOut(), 5);
        Check.due("empty", x.count(9), 0);
        Check.due("place", x.count(3), 5);
        Check.due("load", x.load(9, 0), 900);
        Check.due("day", x.count(0), 2);
        Check.due("tension", x.ofWire(0, 4), 2940);
        Check.due("known", x.known(0, 1), 2940);
        Check.due("heard on", x.known(0, 0), 0);
        Check.due("again", x.carryOut(), SingingWires.BAD_TEXT);
    }

    private static void carryOutStops() {
        stopsAfter("g5;g20;g7", 1);
        stopsAfter("g5;h;g7", 1);
        stopsAfter("g5;t5;g7", 1);
        stopsAfter("g5;t50001;g7", 1);
        stopsAfter("g5;d0;g7", 1);
        stopsAfter("g5;d101;g7", 1);
        stopsAfter("g5;p20=1;g7", 1);
        stopsAfter("g5;p1=1001;g7", 1);
        stopsAfter("g1;g2;g5;p99999=99999", 3);
        SingingWires x = new SingingWires();
        x.wire(0, 80, 3, 100, 100);
        x.load(0, 11);
        Check.type(x, "h;h;d1;g3");
        Check.due("NONE, of a broken wire, is no error", x.carryOut(), 4);
        Check.due("place", x.count(3), 3);
        Check.due("known(0, 3)", x.known(0, 3), 1);
    }

    private static void stopsAfter(String text, int want) {
        SingingWires x = new SingingWires();
        Check.type(x, text);
        Check.due("carryOut of " + text, x.carryOut(), want);
        Check.due("place after " + text, x.count(3), 5);
        Check.due("pad after " + text, x.count(9), 0);
        Check.due("changes after " + text, x.count(10), 1);
    }

    private static void carryOutIsOneChange() {
        SingingWires x = new SingingWires();
        x.walk(2);
        Check.type(x, "g3;g4;d2;p1=5");
        Check.due("carryOut", x.carryOut(), 4);
        Check.due("count(10)", x.count(10), 2);
        Check.due("undo", x.undo(), 1);
        Check.due("place", x.count(3), 2);
        Check.due("day", x.count(0), 0);
        Check.due("loads", x.count(5), 0);
        Check.due("the pad doesn't come back", x.count(9), 0);
        Check.type(x, "g20");
        Check.due("none carried out", x.carryOut(), 0);
        Check.due("a change all the same", x.count(10), 2);
    }

    private static void carryOutFault() {
        SingingWires x = new SingingWires();
        Check.due("empty pad", x.carryOut(), SingingWires.BAD_TEXT);
        Check.type(x, "g3;g4;x");
        Check.due("fault", x.carryOut(), SingingWires.BAD_TEXT);
        Check.due("it stays", x.count(9), 7);
        Check.due("nothing carried out", x.count(3), 0);
        Check.due("no change", x.count(10), 0);
    }

    private static void everyOrder() {
        SingingWires x = new SingingWires();
        Check.type(x, "g1;g2;g1;g2;g1;g2;g1;g2;g1;g2;g1;g2;g1;g2;g1;g2;g1;g2;g1;g2");
        Check.due("twenty orders", x.carryOut(), 20);
        Check.due("count(4)", x.count(4), 20);
        x.wire(2, 80, 3, 100, 100);
        Check.type(x, "h;h;h;h;h;h;h;h;h;h;h;h;h;h;h;h;h;h;h;h;h;h;h;h;h;h;h;h;h;h");
        Check.due("thirty orders", x.carryOut(), 30);
        Check.type(x, "d100;d100;d100;d100;d100;d100;d100;d100;d100;d100;d100;d100");
        Check.due("twelve hundred days", x.carryOut(), 12);
        Check.due("count(0)", x.count(0), 1200);
        Check.type(x, "h;h;h;h;h;h;h;h;h;h;h;h;h;h;h;h;h;h;h;h;h;h;h;h;h;h;h;h;p1=5");
        Check.due("sixty characters", x.count(9), 60);
        Check.due("to the very last one", x.carryOut(), 29);
        Check.due("count(5)", x.count(5), 5);
        Check.type(x, "g9");
        Check.due("nothing is left of the longer text before", x.carryOut(), 1);
        Check.due("count(3)", x.count(3), 9);
    }
}
