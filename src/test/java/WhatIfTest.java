/** Promises 12 to 18: pitchAt, tensionFor, fallsWith, mostAt, slackIn, round, weakest. */
public final class WhatIfTest {
    public static void main(String[] args) {
        pitchAt();
        tensionFor();
        fallsWith();
        mostAt();
        slackIn();
        round();
        roundLeavesOut();
        weakest();
        nothingChanges();
        Check.end();
    }

    private static void pitchAt() {
        Check.about("promise 12, pitchAt");
        SingingWires x = new SingingWires();
        Check.due("no wires", x.pitchAt(0, 5), SingingWires.NO_SUCH);
        x.wire(4, 100, 5, 300, 15);
        Check.due("pitchAt(0, 1500)", x.pitchAt(0, 1500), 173);
        Check.due("pitchAt(0, 0)", x.pitchAt(0, 0), 0);
        Check.due("pitchAt(0, 50000)", x.pitchAt(0, 50000), 1000);
        Check.due("pitchAt(0, 49999)", x.pitchAt(0, 49999), 999);
        Check.due("pitchAt(0, 50001)", x.pitchAt(0, 50001), SingingWires.BAD_VALUE);
        Check.due("pitchAt(0, -1)", x.pitchAt(0, -1), SingingWires.BAD_VALUE);
        Check.due("pitchAt(1, -1)", x.pitchAt(1, -1), SingingWires.NO_SUCH);
        Check.due("pitchAt(-1, 5)", x.pitchAt(-1, 5), SingingWires.NO_SUCH);
        x.load(0, 1000);
        Check.due("of a broken one", x.pitchAt(0, 1500), 173);
        x.wire(5, 10, 1, 50000, 0);
        Check.due("the highest", x.pitchAt(1, 50000), 22360);
        x.wire(6, 200, 20, 50000, 0);
        Check.due("the lowest above 0", x.pitchAt(2, 1), 1);
        Check.due("a power of two", x.pitchAt(1, 26844), 16384);
        Check.due("just below", x.pitchAt(1, 26843), 16383);
    }

    private static void tensionFor() {
        Check.about("promise 13, tensionFor");
        SingingWires x = new SingingWires();
        Check.due("no wires", x.tensionFor(0, 5), SingingWires.NO_SUCH);
        x.wire(4, 100, 5, 300, 15);
        Check.due("tensionFor(0, 77)", x.tensionFor(0, 77), 297);
        Check.due("tensionFor(0, 0)", x.tensionFor(0, 0), 0);
        Check.due("tensionFor(0, 1)", x.tensionFor(0, 1), 1);
        Check.due("tensionFor(0, 1000)", x.tensionFor(0, 1000), 50000);
        Check.due("tensionFor(0, 1001)", x.tensionFor(0, 1001), SingingWires.NONE);
        Check.due("tensionFor(0, 100000)", x.tensionFor(0, 100000), SingingWires.NONE);
        Check.due("tensionFor(0, 100001)", x.tensionFor(0, 100001), SingingWires.BAD_VALUE);
        Check.due("tensionFor(0, -1)", x.tensionFor(0, -1), SingingWires.BAD_VALUE);
        Check.due("tensionFor(1, -1)", x.tensionFor(1, -1), SingingWires.NO_SUCH);
        x.load(0, 1000);
        Check.due("of a broken one", x.tensionFor(0, 77), 297);
        x.wire(5, 10, 1, 50000, 0);
        Check.due("a pitch that is never met itself", x.tensionFor(1, 101), 2);
        x.wire(6, 13, 1, 50000, 0);
        // 16827 * 16827 * 169 = 47852000001.
        Check.due("rounded up from the least rest", x.tensionFor(2, 16827), 47853);
    }

    private static void fallsWith() {
        Check.about("promise 14, fallsWith");
        SingingWires x = new SingingWires();
        Check.due("no wires", x.fallsWith(0), SingingWires.NO_SUCH);
        x.wire(0, 100, 5, 500, 0);
        x.wire(10, 100, 5, 700, 0);
        x.wire(19, 100, 5, 5000, 0);
        x.load(0, 50);
        x.load(10, 50);
        Check.due("0 falls, 1 follows", x.fallsWith(0), 3);
        Check.due("1 falls, 0 follows", x.fallsWith(1), 3);
        Check.due("2 falls alone", x.fallsWith(2), 4);
        Check.due("fallsWith(3)", x.fallsWith(3), SingingWires.NO_SUCH);
        Check.due("fallsWith(-1)", x.fallsWith(-1), SingingWires.NO_SUCH);
        x.load(0, 51);
        Check.due("broken", x.fallsWith(0), SingingWires.NOT_POSSIBLE);
        Check.due("broken ones are not in the set", x.fallsWith(2), 4);
    }

    private static void mostAt() {
        Check.about("promise 15, mostAt");
        SingingWires x = new SingingWires();
        Check.due("no wires", x.mostAt(3), 1000);
        Check.due("mostAt(20)", x.mostAt(20), SingingWires.NO_SUCH);
        Check.due("mostAt(-1)", x.mostAt(-1), SingingWires.NO_SUCH);
        x.wire(0, 100, 5, 505, 0);
        x.wire(10, 100, 5, 2000, 0);
        Check.due("at 0", x.mostAt(0), 50);
        x.load(0, 20);
        Check.due("at 0, in place of what is there", x.mostAt(0), 50);
        // The left one may have 30 more: load - load * 5 / 10.
        Check.due("at 5", x.mostAt(5), 60);
        Check.due("at 19", x.mostAt(19), 200);
        x.load(0, 50);
        // 1 of 10 goes to the left: load - load * 9 / 10 is 0 only for load 0.
        Check.due("at 9", x.mostAt(9), 0);
        Check.due("at 10", x.mostAt(10), 200);
        x.load(0, 51);
        Check.due("broken ones don't count", x.mostAt(0), 200);
        Check.due("what is there counts elsewhere", x.mostAt(19), 149);
        for (int most : new int[] {11, 511, 512, 513, 999, 1000}) {
            SingingWires y = new SingingWires();
            y.wire(4, 100, 5, 10 * most + 9, 0);
            Check.due("mostAt(7)", y.mostAt(7), most);
        }
        SingingWires strong = new SingingWires();
        strong.wire(4, 100, 5, 50000, 0);
        Check.due("1000 at most", strong.mostAt(7), 1000);
    }

    private static void slackIn() {
        Check.about("promise 16, slackIn");
        SingingWires x = new SingingWires();
        Check.due("no wires", x.slackIn(0), SingingWires.NO_SUCH);
        x.wire(0, 100, 5, 5000, 1000);
        Check.due("slackIn(-1)", x.slackIn(-1), SingingWires.NO_SUCH);
        Check.due("slackIn(1)", x.slackIn(1), SingingWires.NO_SUCH);
        Check.due("nothing to carry", x.slackIn(0), SingingWires.NONE);
        x.load(0, 100);
        Check.due("tomorrow", x.slackIn(0), 1);
        x.load(0, 101);
        Check.due("now", x.slackIn(0), 0);
        x.load(0, 99);
        Check.due("990, not yet; 980", x.slackIn(0), 2);
        x.set(0, 0);
        Check.due("never", x.slackIn(0), SingingWires.NONE);
        x.set(0, 1);
        // One a day below 1000: 390 - 300 days.
        x.tighten(399);
        x.load(0, 10);
        Check.due("on the last day, 300", x.slackIn(0), 300);
        x.tighten(400);
        Check.due("on day 301", x.slackIn(0), SingingWires.NONE);
        x.load(0, 501);
        Check.due("broken", x.slackIn(0), SingingWires.NONE);
    }

    private static void round() {
        Check.about("promise 17, round");
        SingingWires x = new SingingWires();
        Check.due("no wires", x.round(), 0);
        x.wire(5, 100, 5, 5000, 1000);
        Check.due("one", x.round(), 5);
        x.wire(16, 100, 5, 5000, 1000);
        x.wire(12, 100, 5, 5000, 1000);
        Check.due("from the left", x.round(), 16);
        x.walk(19);
        Check.due("from the right", x.round(), 14);
        x.walk(8);
        Check.due("between, nearer to the left", x.round(), 14);
        x.walk(12);
        Check.due("between, nearer to the right", x.round(), 15);
        x.walk(5);
        Check.due("at an end", x.round(), 11);
        x.hear();
        Check.due("that one is well", x.round(), 11);
        x.load(5, 200);
        Check.due("that one is surely slack", x.round(), 11);
        x.load(5, 0);
        x.walk(16);
        x.hear();
        Check.due("one is left", x.round(), 4);
        x.walk(12);
        Check.due("there it is", x.round(), 0);
        x.hear();
        Check.due("none is left", x.round(), 0);
    }

    private static void roundLeavesOut() {
        SingingWires x = new SingingWires();
        x.wire(5, 100, 5, 500, 100);
        x.wire(15, 100, 5, 5000, 100);
        x.load(5, 51);
        Check.due("broken, but unheard", x.round(), 15);
        x.walk(5);
        x.hear();
        Check.due("heard to be broken", x.round(), 10);
    }

    private static void weakest() {
        Check.about("promise 18, weakest");
        SingingWires x = new SingingWires();
        Check.due("no wires", x.weakest(0), SingingWires.NONE);
        Check.due("no wires", x.weakest(1), SingingWires.NONE);
        Check.due("weakest(2)", x.weakest(2), SingingWires.BAD_VALUE);
        Check.due("weakest(-1)", x.weakest(-1), SingingWires.BAD_VALUE);
        x.wire(19, 100, 5, 5000, 0);
        x.wire(10, 100, 5, 700, 0);
        x.wire(0, 100, 5, 500, 0);
        Check.due("all alone: the lowest", x.weakest(0), 0);
        Check.due("all alone: one", x.weakest(1), 1);
        x.load(0, 50);
        x.load(10, 50);
        Check.due("1 and 2 take each other with them", x.weakest(0), 1);
        Check.due("two", x.weakest(1), 2);
        x.load(0, 51);
        Check.due("these are broken", x.weakest(0), 0);
        Check.due("one", x.weakest(1), 1);
        x.load(19, 500);
        Check.due("none is whole", x.weakest(0), SingingWires.NONE);
        Check.due("none is whole", x.weakest(1), SingingWires.NONE);
        Check.due("weakest(2)", x.weakest(2), SingingWires.BAD_VALUE);
    }

    private static void nothingChanges() {
        Check.about("promises 12 to 18, nothing changes");
        SingingWires x = new SingingWires();
        x.wire(0, 100, 5, 500, 400);
        x.wire(10, 100, 5, 700, 400);
        x.load(0, 50);
        x.load(10, 50);
        x.pitchAt(0, 50000);
        x.tensionFor(0, 500);
        x.fallsWith(0);
        x.mostAt(0);
        x.slackIn(0);
        x.round();
        x.weakest(0);
        x.weakest(1);
        int[] due = {0, 2, 0, 0, 0, 100, 0, 2, 0, 0, 4, 10, 20};
        for (int what = 0; what <= 12; what++) {
            Check.due("count(" + what + ")", x.count(what), due[what]);
        }
        Check.due("tension", x.ofWire(0, 4), 400);
        Check.due("task", x.ofWire(0, 7), 500);
        Check.due("task", x.ofWire(1, 7), 500);
        Check.due("known(0, 0)", x.known(0, 0), SingingWires.NONE);
    }
}
