/** Promises 9 to 11: ofWire, known, count. */
public final class WhatThereIsTest {
    public static void main(String[] args) {
        ofWire();
        slackAndTight();
        brokenWire();
        known();
        surelyAndMaybe();
        listenersTask();
        count();
        Check.end();
    }

    private static void ofWire() {
        Check.about("promise 9, ofWire");
        SingingWires x = new SingingWires();
        Check.due("no wires", x.ofWire(0, 0), SingingWires.NO_SUCH);
        x.wire(4, 100, 5, 3000, 1500);
        x.load(4, 12);
        int[] due = {4, 100, 5, 3000, 1500, 0, 173, 120, 0, 1, SingingWires.NONE};
        for (int what = 0; what <= 10; what++) {
            Check.due("ofWire(0, " + what + ")", x.ofWire(0, what), due[what]);
        }
        Check.due("ofWire(0, 11)", x.ofWire(0, 11), SingingWires.BAD_VALUE);
        Check.due("ofWire(0, -1)", x.ofWire(0, -1), SingingWires.BAD_VALUE);
        Check.due("ofWire(1, 0)", x.ofWire(1, 0), SingingWires.NO_SUCH);
        Check.due("ofWire(-1, 0)", x.ofWire(-1, 0), SingingWires.NO_SUCH);
        Check.due("ofWire(8, 99)", x.ofWire(8, 99), SingingWires.NO_SUCH);
        Check.due("count(10)", x.count(10), 2);
    }

    private static void slackAndTight() {
        SingingWires x = new SingingWires();
        x.wire(4, 100, 5, 3000, 1000);
        Check.due("1000 is never too tight", x.ofWire(0, 9), 0);
        x.walk(4);
        x.tighten(1001);
        Check.due("1001, nothing to carry", x.ofWire(0, 9), 1);
        x.load(4, 100);
        Check.due("1001 of 1000", x.ofWire(0, 9), 0);
        x.tighten(1200);
        Check.due("1200 of 1000 + 20 %", x.ofWire(0, 9), 0);
        x.tighten(1201);
        Check.due("1201 of 1000 + 20 %", x.ofWire(0, 9), 1);
        x.set(1, 0);
        x.tighten(1001);
        Check.due("1001 of 1000 + 0 %", x.ofWire(0, 9), 1);
        x.tighten(1000);
        Check.due("1000 of 1000 + 0 %", x.ofWire(0, 9), 0);
        Check.due("1000 of 1000 is not slack", x.ofWire(0, 8), 0);
        x.tighten(999);
        Check.due("999 of 1000 is slack", x.ofWire(0, 8), 1);
        x.set(1, 33);
        x.load(4, 103);
        x.tighten(1369);
        Check.due("1369 of 1030 + 339.9", x.ofWire(0, 9), 0);
        x.tighten(1370);
        Check.due("1370 of 1030 + 339.9", x.ofWire(0, 9), 1);
    }

    private static void brokenWire() {
        SingingWires x = new SingingWires();
        x.wire(4, 100, 5, 3000, 1500);
        x.days(7);
        x.load(3, 301);
        int[] due = {4, 100, 5, 3000, 0, 1, 0, 0, 0, 0, 7};
        for (int what = 0; what <= 10; what++) {
            Check.due("ofWire(0, " + what + ") of a broken one", x.ofWire(0, what), due[what]);
        }
    }

    private static void known() {
        Check.about("promise 10, known");
        SingingWires x = new SingingWires();
        Check.due("no wires", x.known(0, 0), SingingWires.NO_SUCH);
        x.wire(4, 100, 5, 3000, 1500);
        int[] due = {SingingWires.NONE, SingingWires.NONE, SingingWires.NONE, 0, 0, 0, 1};
        for (int what = 0; what <= 6; what++) {
            Check.due("nothing known, " + what, x.known(0, what), due[what]);
        }
        Check.due("known(0, 7)", x.known(0, 7), SingingWires.BAD_VALUE);
        Check.due("known(0, -1)", x.known(0, -1), SingingWires.BAD_VALUE);
        Check.due("known(1, 7)", x.known(1, 7), SingingWires.NO_SUCH);
        Check.due("known(-1, 0)", x.known(-1, 0), SingingWires.NO_SUCH);
        x.days(5);
        x.walk(4);
        x.hear();
        Check.due("known(0, 0)", x.known(0, 0), 5);
        x.days(1);
        x.tighten(77);
        Check.due("known(0, 0)", x.known(0, 0), 6);
    }

    private static void surelyAndMaybe() {
        SingingWires x = new SingingWires();
        x.wire(0, 100, 5, 3000, 1500);
        x.load(0, 200);
        Check.due("nothing known: not surely", x.known(0, 5), 0);
        Check.due("nothing known: maybe", x.known(0, 6), 1);
        x.hear();
        // Bounds 1497 to 1513.
        Check.due("surely at 2000", x.known(0, 5), 1);
        Check.due("surely, so not maybe", x.known(0, 6), 0);
        int[] loads = {152, 151, 150, 149};
        int[] surely = {1, 0, 0, 0};
        int[] maybe = {0, 1, 1, 0};
        for (int i = 0; i < loads.length; i++) {
            x.load(0, loads[i]);
            Check.due("surely at " + loads[i], x.known(0, 5), surely[i]);
            Check.due("maybe at " + loads[i], x.known(0, 6), maybe[i]);
        }
        x.tighten(1490);
        Check.due("the high bound as the task is not surely", x.known(0, 5), 0);
        Check.due("the low bound as the task is not maybe", x.known(0, 6), 0);
        x.days(1);
        Check.due("a day later it surely is", x.known(0, 5), 1);
    }

    private static void listenersTask() {
        SingingWires x = new SingingWires();
        x.wire(0, 100, 5, 3000, 1500);
        x.wire(10, 100, 5, 3000, 1500);
        x.load(4, 100);
        x.load(10, 301);
        Check.due("1 breaks", x.ofWire(1, 5), 1);
        Check.due("and 0 with it", x.ofWire(0, 5), 1);
        Check.due("unheard, 0 is reckoned whole", x.known(0, 4), 600);
        Check.due("unheard, 1 is reckoned whole", x.known(1, 4), 3410);
        x.walk(10);
        x.hear();
        Check.due("1 heard: all is with 0", x.known(0, 4), 4010);
        Check.due("1 heard", x.known(1, 4), 0);
        Check.due("1 heard: not surely slack", x.known(1, 5), 0);
        Check.due("1 heard: not maybe slack", x.known(1, 6), 0);
        Check.due("0 may be slack", x.known(0, 6), 1);
        Check.due("what is stays as it is", x.ofWire(0, 7), 0);
    }

    private static void count() {
        Check.about("promise 11, count");
        SingingWires x = new SingingWires();
        x.wire(4, 100, 5, 3000, 1500);
        x.wire(10, 100, 5, 3000, 800);
        x.wire(16, 100, 5, 900, 0);
        x.load(10, 90);
        x.load(16, 70);
        x.walk(9);
        x.walk(2);
        Check.type(x, "g1;h");
        int[] due = {0, 3, 0, 2, 16, 160, 0, 2, 1, 4, 6, 10, 20};
        for (int what = 0; what <= 12; what++) {
            Check.due("count(" + what + ")", x.count(what), due[what]);
        }
        Check.due("count(13)", x.count(13), SingingWires.BAD_VALUE);
        Check.due("count(-1)", x.count(-1), SingingWires.BAD_VALUE);
        x.days(4);
        x.set(0, 3);
        x.set(1, 4);
        x.load(16, 100);
        int[] later = {4, 3, 1, 2, 16, 190, 0, 1, 1, 4, 6, 3, 4};
        for (int what = 0; what <= 12; what++) {
            Check.due("later count(" + what + ")", x.count(what), later[what]);
        }
        Check.due("none carries", nobodyCarries(), 1006);
    }

    private static int nobodyCarries() {
        SingingWires x = new SingingWires();
        x.load(0, 6);
        x.wire(4, 100, 5, 900, 0);
        Check.due("one carries all", x.count(6), 0);
        x.load(19, 1000);
        return x.count(6);
    }
}
