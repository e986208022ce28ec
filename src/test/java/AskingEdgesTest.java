/** Each sentence of the document that names an edge, of the pitch, and in promises 9 to 18. */
public final class AskingEdgesTest {
    private static final int NO_SUCH = -1, BAD_VALUE = -2, NOT_POSSIBLE = -5, NONE = -6;
    private static final int MIN = Integer.MIN_VALUE, MAX = Integer.MAX_VALUE;

    public static void main(String[] args) {
        pitchIsGreatest();
        pitchOfTheWireItself();
        noSuchWire();
        noSuchWireFirst();
        ofWireRange();
        knownRange();
        countRange();
        countOfEmpty();
        countOfFull();
        countOfLoadsNobodyCarries();
        pitchAtRange();
        tensionForRange();
        tensionForIsTheLeast();
        tensionForNone();
        fallsWithItself();
        fallsWithOthers();
        fallsWithBroken();
        fallsWithAll();
        mostAtRange();
        mostAtTheStrength();
        mostAtBothEnds();
        mostAtInPlaceOf();
        mostAtBetween();
        mostAtWithBroken();
        slackNow();
        slackTomorrow();
        slackWithinThreeHundred();
        slackNever();
        slackOfBroken();
        roundOfNone();
        roundOfOne();
        roundToBothEnds();
        roundComesToAllThatMayBe();
        roundLeavesOutHeardBroken();
        weakestRange();
        weakestOfNone();
        weakestTheLowest();
        weakestTheMost();
        Check.end();
    }

    private static SingingWires one(int strength, int tension) {
        SingingWires x = new SingingWires();
        x.wire(0, 100, 5, strength, tension);
        return x;
    }

    // ---- the pitch

    private static void pitchIsGreatest() {
        Check.about("\"the greatest whole number p for which p * p * length * length * mass is at most ..\"");
        // Each length and mass, at tensions where the pitch just changes: 50000 is a whole number of squares.
        int[][] due = {{10, 1, 0, 0}, {10, 1, 1, 100}, {10, 1, 4, 200}, {10, 1, 3, 173}, {10, 1, 50000, 22360},
            {10, 1, 49997, 22360}, {10, 1, 49996, 22359}, {200, 20, 50000, 250}, {200, 20, 49999, 249},
            {200, 20, 1, 1}, {200, 20, 3, 1}, {200, 20, 4, 2}, {200, 1, 1, 5}, {10, 20, 50000, 5000},
            {10, 20, 49999, 4999}, {100, 5, 50000, 1000}, {100, 5, 49999, 999}, {100, 5, 1, 4}, {199, 19, 50000, 257},
            {11, 3, 12345, 5831}, {13, 1, 47852, 16826}, {13, 1, 47853, 16827}};
        // The last two: 16827 * 16827 * 169 = 47852000001, just above 47852 * 1000000.
        for (int[] d : due) {
            SingingWires x = new SingingWires();
            x.wire(0, d[0], d[1], 50000, d[2]);
            String call = "length " + d[0] + ", mass " + d[1] + ", tension " + d[2];
            Check.due(call, x.ofWire(0, 6), d[3]);
            Check.due(call + ", pitchAt", x.pitchAt(0, d[2]), d[3]);
            Check.due(call + ", heard", x.hear(), d[3]);
        }
    }

    private static void pitchOfTheWireItself() {
        Check.about("promise 9, \"6 its pitch\" is that of its tension");
        SingingWires x = one(50000, 50000);
        Check.due("at first", x.ofWire(0, 6), 1000);
        x.days(1);
        // 49500: 994 * 994 * 50000 = 49401800000, 995: 49501250000.
        Check.due("a day later", x.ofWire(0, 6), 994);
        x.tighten(0);
        Check.due("let go", x.ofWire(0, 6), 0);
    }

    // ---- ofWire, known, count

    private static void noSuchWire() {
        Check.about("promises 9, 10, 12 to 14, 16, \"NO_SUCH if there is no such wire\"");
        SingingWires x = new SingingWires();
        for (int wires = 0; wires <= 8; wires++) {
            for (int wire : new int[] {-1, wires, 8, MIN, MAX}) {
                Check.due("ofWire(" + wire + ", 0) of " + wires, x.ofWire(wire, 0), NO_SUCH);
                Check.due("known(" + wire + ", 0) of " + wires, x.known(wire, 0), NO_SUCH);
                Check.due("pitchAt(" + wire + ", 0) of " + wires, x.pitchAt(wire, 0), NO_SUCH);
                Check.due("tensionFor(" + wire + ", 0) of " + wires, x.tensionFor(wire, 0), NO_SUCH);
                Check.due("fallsWith(" + wire + ") of " + wires, x.fallsWith(wire), NO_SUCH);
                Check.due("slackIn(" + wire + ") of " + wires, x.slackIn(wire), NO_SUCH);
            }
            if (wires < 8) {
                x.wire(2 * wires, 100, 5, 3000, 1000);
                Check.due("the last one is there", x.ofWire(wires, 0), 2 * wires);
                Check.due("the last one is there", x.known(wires, 0), NONE);
                Check.due("the last one is there", x.pitchAt(wires, 0), 0);
                Check.due("the last one is there", x.tensionFor(wires, 0), 0);
                Check.due("the last one is there", x.fallsWith(wires), 1 << wires);
                Check.due("the last one is there", x.slackIn(wires), NONE);
            }
        }
    }

    private static void noSuchWireFirst() {
        Check.about("promises 9, 10, 12, 13, NO_SUCH comes before BAD_VALUE");
        SingingWires x = one(3000, 1500);
        for (int wire : new int[] {-1, 1}) {
            for (int other : new int[] {-1, 100001}) {
                Check.due("ofWire", x.ofWire(wire, other), NO_SUCH);
                Check.due("known", x.known(wire, other), NO_SUCH);
                Check.due("pitchAt", x.pitchAt(wire, other), NO_SUCH);
                Check.due("tensionFor", x.tensionFor(wire, other), NO_SUCH);
            }
        }
    }

    private static void ofWireRange() {
        Check.about("promise 9, \"BAD_VALUE if what is out of range\"");
        SingingWires x = one(3000, 1500);
        for (int what : new int[] {-1, 11, MIN, MAX}) {
            Check.due("ofWire(0, " + what + ")", x.ofWire(0, what), BAD_VALUE);
        }
        Check.due("ofWire(0, 0)", x.ofWire(0, 0), 0);
        Check.due("ofWire(0, 10)", x.ofWire(0, 10), NONE);
    }

    private static void knownRange() {
        Check.about("promise 10, \"BAD_VALUE if what is out of range\"");
        SingingWires x = one(3000, 1500);
        for (int what : new int[] {-1, 7, MIN, MAX}) {
            Check.due("known(0, " + what + ")", x.known(0, what), BAD_VALUE);
        }
        Check.due("known(0, 0)", x.known(0, 0), NONE);
        Check.due("known(0, 6)", x.known(0, 6), 1);
    }

    private static void countRange() {
        Check.about("promise 11, \"BAD_VALUE if what is out of range\"");
        SingingWires x = new SingingWires();
        for (int what : new int[] {-1, 13, MIN, MAX}) {
            Check.due("count(" + what + ")", x.count(what), BAD_VALUE);
        }
        Check.due("count(0)", x.count(0), 0);
        Check.due("count(12)", x.count(12), 20);
    }

    private static void countOfEmpty() {
        Check.about("promise 11, of what is empty");
        SingingWires x = new SingingWires();
        int[] due = {0, 0, 0, 0, 0, 0, 0, 0, 0, 0, 0, 10, 20};
        for (int what = 0; what < due.length; what++) {
            Check.due("count(" + what + ")", x.count(what), due[what]);
        }
    }

    private static void countOfFull() {
        Check.about("promise 11, of what is full");
        SingingWires x = new SingingWires();
        for (int number = 0; number < 8; number++) {
            x.wire(number, 10, 1, 50000, 50000);
        }
        Check.due("wires", x.count(1), 8);
        Check.due("too tight", x.count(8), 8);
        for (int place = 0; place < 12; place++) {
            x.load(place, 1000);
        }
        for (int number = 0; number < 8; number++) {
            x.walk(number);
            x.tighten(9999);
        }
        Check.due("slack", x.count(7), 8);
        Check.due("too tight", x.count(8), 0);
        Check.due("loads", x.count(5), 12000);
        for (int place = 12; place < 20; place++) {
            x.load(place, 1000);
        }
        Check.due("broken", x.count(2), 8);
        Check.due("slack", x.count(7), 0);
        Check.due("nobody carries", x.count(6), 20000);
        Check.due("place", x.count(3), 7);
        Check.type(x, "h;h;h;h;h;h;h;h;h;h;h;h;h;h;h;h;h;h;h;h;h;h;h;h;h;h;h;h;h;h;");
        Check.due("the pad", x.count(9), 60);
        Check.due("changes", x.count(10), 6);
        Check.due("all can be undone", x.undo(), 5);
    }

    private static void countOfLoadsNobodyCarries() {
        Check.about("promise 11, \"6 the loads that nobody carries\"");
        SingingWires x = new SingingWires();
        x.load(0, 1);
        x.load(19, 1000);
        Check.due("without a wire", x.count(6), 1001);
        x.wire(7, 10, 1, 10010, 0);
        Check.due("with one", x.count(6), 0);
        x.load(10, 1);
        Check.due("broken", x.count(6), 1002);
        x.undo();
        Check.due("undone", x.count(6), 0);
    }

    // ---- pitchAt, tensionFor

    private static void pitchAtRange() {
        Check.about("promise 12, \"tension: 0 to 50000\"");
        SingingWires x = one(100, 100);
        for (int tension : new int[] {-1, 50001, MIN, MAX}) {
            Check.due("pitchAt(0, " + tension + ")", x.pitchAt(0, tension), BAD_VALUE);
        }
        Check.due("0", x.pitchAt(0, 0), 0);
        Check.due("1", x.pitchAt(0, 1), 4);
        Check.due("above its strength", x.pitchAt(0, 101), 44);
        Check.due("49999", x.pitchAt(0, 49999), 999);
        Check.due("50000", x.pitchAt(0, 50000), 1000);
        x.load(0, 11);
        Check.due("of a broken one", x.pitchAt(0, 50000), 1000);
        Check.due("of a broken one", x.pitchAt(0, 50001), BAD_VALUE);
    }

    private static void tensionForRange() {
        Check.about("promise 13, \"pitch: 0 to 100000\"");
        SingingWires x = one(100, 100);
        for (int pitch : new int[] {-1, 100001, MIN, MAX}) {
            Check.due("tensionFor(0, " + pitch + ")", x.tensionFor(0, pitch), BAD_VALUE);
        }
        Check.due("0", x.tensionFor(0, 0), 0);
        Check.due("1", x.tensionFor(0, 1), 1);
        Check.due("99999", x.tensionFor(0, 99999), NONE);
        Check.due("100000", x.tensionFor(0, 100000), NONE);
        x.load(0, 11);
        Check.due("of a broken one", x.tensionFor(0, 1), 1);
        Check.due("of a broken one", x.tensionFor(0, 100001), BAD_VALUE);
    }

    private static void tensionForIsTheLeast() {
        Check.about("promise 13, \"the least tension, 0 to 50000, with which a wire would have a pitch at least\"");
        int[][] wires = {{10, 1}, {10, 20}, {13, 7}, {100, 5}, {199, 19}, {200, 1}, {200, 20}};
        for (int[] w : wires) {
            SingingWires x = new SingingWires();
            x.wire(0, w[0], w[1], 50000, 0);
            for (int pitch : new int[] {1, 2, 3, 10, 77, 100, 101, 249, 250}) {
                int least = x.tensionFor(0, pitch);
                String call = "length " + w[0] + ", mass " + w[1] + ", pitch " + pitch;
                Check.due(call + " is reached", x.pitchAt(0, least) >= pitch ? 1 : 0, 1);
                Check.due(call + " is not reached with less", x.pitchAt(0, least - 1) < pitch ? 1 : 0, 1);
            }
        }
        SingingWires x = one(3000, 0);
        // 20 * 20 * 50000 = 20000000 is met, 21 * 21 * 50000 = 22050000 is not.
        Check.due("a whole number", x.tensionFor(0, 20), 20);
        Check.due("rounded up", x.tensionFor(0, 21), 23);
        x.wire(1, 13, 1, 50000, 0);
        // 16827 * 16827 * 169 = 47852000001.
        Check.due("rounded up from the least rest", x.tensionFor(1, 16827), 47853);
    }

    private static void tensionForNone() {
        Check.about("promise 13, \"NONE if there is none\"");
        SingingWires x = one(3000, 0);
        Check.due("50000 has 1000", x.tensionFor(0, 1000), 50000);
        Check.due("1001 would need more", x.tensionFor(0, 1001), NONE);
        Check.due("999", x.tensionFor(0, 999), 49901);
        x.wire(1, 10, 1, 100, 0);
        // 22360 * 22360 * 100 = 49996960000, 22361: 50001432100.
        Check.due("22360", x.tensionFor(1, 22360), 49997);
        Check.due("22361", x.tensionFor(1, 22361), NONE);
        x.wire(2, 200, 20, 100, 0);
        Check.due("250", x.tensionFor(2, 250), 50000);
        Check.due("251", x.tensionFor(2, 251), NONE);
        Check.due("100000 of the heaviest", x.tensionFor(2, 100000), NONE);
    }

    // ---- fallsWith

    private static void fallsWithItself() {
        Check.about("promise 14, \"Returns the set, with this wire\"");
        SingingWires x = new SingingWires();
        for (int number = 0; number < 8; number++) {
            x.wire(2 * number, 10, 1, 50000, 0);
            Check.due("fallsWith(" + number + ")", x.fallsWith(number), 1 << number);
        }
        x.load(7, 1000);
        for (int number = 0; number < 8; number++) {
            Check.due("loaded, fallsWith(" + number + ")", x.fallsWith(number), 1 << number);
        }
    }

    private static void fallsWithOthers() {
        Check.about("promise 14, \"which wires would break .. if a wire broke now and the bridge was settled\"");
        SingingWires x = new SingingWires();
        x.wire(0, 10, 1, 200, 0);
        x.wire(10, 10, 1, 200, 0);
        x.load(0, 10);
        x.load(10, 10);
        Check.due("the other just holds", x.fallsWith(0), 1);
        Check.due("the other just holds", x.fallsWith(1), 2);
        x.load(10, 11);
        Check.due("the other does not", x.fallsWith(0), 3);
        Check.due("the other does not", x.fallsWith(1), 3);
        Check.due("none broke", x.count(2), 0);
    }

    private static void fallsWithBroken() {
        Check.about("promise 14, \"NOT_POSSIBLE if it is broken\"");
        SingingWires x = new SingingWires();
        x.wire(0, 10, 1, 100, 0);
        x.wire(10, 10, 1, 50000, 0);
        Check.due("whole", x.fallsWith(0), 1);
        x.load(0, 11);
        Check.due("broken", x.fallsWith(0), NOT_POSSIBLE);
        Check.due("not in the set of another", x.fallsWith(1), 2);
        Check.due("none there", x.fallsWith(2), NO_SUCH);
    }

    private static void fallsWithAll() {
        Check.about("promise 14, all eight wires, one after the other");
        SingingWires x = new SingingWires();
        for (int number = 0; number < 8; number++) {
            x.wire(number, 10, 1, 199, 0);
        }
        for (int number = 0; number < 8; number++) {
            x.load(number, 10);
        }
        for (int number = 0; number < 8; number++) {
            // In the middle, each neighbour gets 5 of 10 and holds; at an end, one neighbour gets all and does not.
            boolean end = number == 0 || number == 7;
            Check.due("fallsWith(" + number + ")", x.fallsWith(number), end ? 255 : 1 << number);
        }
    }

    // ---- mostAt

    private static void mostAtRange() {
        Check.about("promise 15, \"NO_SUCH if there is no such place\"");
        SingingWires x = new SingingWires();
        for (int place : new int[] {-1, 20, MIN, MAX}) {
            Check.due("mostAt(" + place + ")", x.mostAt(place), NO_SUCH);
        }
        Check.due("mostAt(0)", x.mostAt(0), 1000);
        Check.due("mostAt(19)", x.mostAt(19), 1000);
    }

    private static void mostAtTheStrength() {
        Check.about("promise 15, the greatest one holds, the next one breaks");
        for (int strength : new int[] {100, 101, 109, 110, 119, 5119, 5120, 9989, 9990, 9999}) {
            SingingWires x = one(strength, 0);
            int most = x.mostAt(5);
            Check.due("strength " + strength, most, strength / 10);
            x.load(5, most);
            Check.due("it holds", x.count(2), 0);
            Check.due("asked again", x.mostAt(5), most);
            x.load(5, most + 1);
            Check.due("it breaks", x.count(2), 1);
        }
    }

    private static void mostAtBothEnds() {
        Check.about("promise 15, \"the greatest load, 0 to 1000\"");
        SingingWires x = one(10000, 0);
        Check.due("1000 of 10000", x.mostAt(0), 1000);
        Check.due("1000 of 50000", one(50000, 0).mostAt(0), 1000);
        Check.due("999 of 9999", one(9999, 0).mostAt(0), 999);
        x.load(1, 1000);
        Check.due("0, as the wire has all it can carry", x.mostAt(0), 0);
        x.load(1, 999);
        Check.due("1", x.mostAt(0), 1);
        Check.due("without wires", new SingingWires().mostAt(7), 1000);
    }

    private static void mostAtInPlaceOf() {
        Check.about("promise 15, \"(in place of the one that is there)\"");
        SingingWires x = one(1000, 0);
        x.load(3, 60);
        Check.due("at 3", x.mostAt(3), 100);
        Check.due("at 4", x.mostAt(4), 40);
        x.load(3, 100);
        Check.due("at 3", x.mostAt(3), 100);
        Check.due("at 4", x.mostAt(4), 0);
        Check.due("it stays", x.count(5), 100);
    }

    private static void mostAtBetween() {
        Check.about("promise 15, between two wires, the first one that breaks counts");
        SingingWires x = new SingingWires();
        x.wire(0, 10, 1, 50000, 0);
        x.wire(10, 10, 1, 109, 0);
        // 10 to the right: 109 * 1 / 10 = 10 holds, 110 * 1 / 10 = 11 does not.
        Check.due("at 1", x.mostAt(1), 109);
        Check.due("at 5", x.mostAt(5), 21);
        Check.due("at 10", x.mostAt(10), 10);
        Check.due("at 11", x.mostAt(11), 10);
        Check.due("at 0", x.mostAt(0), 1000);
        SingingWires y = new SingingWires();
        y.wire(0, 10, 1, 109, 0);
        y.wire(10, 10, 1, 50000, 0);
        // The rest to the left: 100 - 90 = 10, 101 - 90 = 11.
        Check.due("at 9", y.mostAt(9), 100);
        Check.due("at 5", y.mostAt(5), 20);
    }

    private static void mostAtWithBroken() {
        Check.about("promise 15, \"without a wire that breaks\": one that is broken already does not");
        SingingWires x = new SingingWires();
        x.wire(0, 10, 1, 100, 0);
        x.load(0, 11);
        Check.due("all are broken", x.mostAt(0), 1000);
        x.wire(10, 10, 1, 300, 0);
        Check.due("in place of the 11", x.mostAt(0), 30);
        Check.due("beside the 11", x.mostAt(1), 19);
    }

    // ---- slackIn

    private static SingingWires creeping(int tension, int load, int creep) {
        SingingWires x = one(50000, tension);
        x.load(0, load);
        x.set(0, creep);
        return x;
    }

    private static void slackNow() {
        Check.about("promise 16, \"Returns how many days (0 if it is so now)\"");
        Check.due("99 for 100", creeping(99, 10, 10).slackIn(0), 0);
        Check.due("0 for 10", creeping(0, 1, 10).slackIn(0), 0);
        Check.due("also without creep", creeping(0, 1, 0).slackIn(0), 0);
    }

    private static void slackTomorrow() {
        Check.about("promise 16, \"for the first time\"");
        Check.due("100 for 100", creeping(100, 10, 10).slackIn(0), 1);
        Check.due("101 for 100, then 99", creeping(101, 10, 10).slackIn(0), 1);
        Check.due("101 for 100 with CREEP 1, then 100, then 99", creeping(101, 10, 1).slackIn(0), 2);
        SingingWires x = creeping(1500, 100, 10);
        int days = x.slackIn(0);
        x.days(days - 1);
        Check.due("the day before", x.ofWire(0, 8), 0);
        Check.due("the day before", x.slackIn(0), 1);
        x.days(1);
        Check.due("that day", x.ofWire(0, 8), 1);
        Check.due("that day", x.slackIn(0), 0);
        Check.due("nothing is changed by asking", creeping(1500, 100, 10).slackIn(0), days);
    }

    private static void slackWithinThreeHundred() {
        Check.about("promise 16, \"NONE if it is not so within 300 days\"");
        // With CREEP 1, one less each day up to 1000.
        Check.due("day 299", creeping(398, 10, 1).slackIn(0), 299);
        Check.due("day 300", creeping(399, 10, 1).slackIn(0), 300);
        Check.due("day 301", creeping(400, 10, 1).slackIn(0), NONE);
        SingingWires x = creeping(400, 10, 1);
        x.days(1);
        Check.due("a day later", x.slackIn(0), 300);
        x.undo();
        Check.due("undone", x.slackIn(0), NONE);
    }

    private static void slackNever() {
        Check.about("promise 16, NONE of a wire that is never slack");
        Check.due("nothing to carry", creeping(100, 0, 100).slackIn(0), NONE);
        Check.due("nothing to carry, no tension", creeping(0, 0, 100).slackIn(0), NONE);
        Check.due("no creep", creeping(10, 1, 0).slackIn(0), NONE);
        Check.due("the greatest creep", creeping(50000, 1, 100).slackIn(0), 78);
    }

    private static void slackOfBroken() {
        Check.about("promise 16, \"or it breaks before\"");
        SingingWires x = one(100, 100);
        x.load(0, 10);
        Check.due("whole", x.slackIn(0), 1);
        x.load(0, 11);
        Check.due("broken", x.slackIn(0), NONE);
        Check.due("no such wire", x.slackIn(1), NO_SUCH);
    }

    // ---- round

    private static void roundOfNone() {
        Check.about("promise 17, \"Returns how far (0 if there are none)\"");
        SingingWires x = new SingingWires();
        Check.due("no wire", x.round(), 0);
        x.walk(19);
        Check.due("no wire", x.round(), 0);
        x.wire(3, 100, 5, 3000, 1500);
        x.walk(3);
        x.hear();
        x.walk(19);
        Check.due("one that is well", x.round(), 0);
    }

    private static void roundOfOne() {
        Check.about("promise 17, one wire at each end");
        SingingWires x = new SingingWires();
        x.wire(0, 100, 5, 3000, 1500);
        Check.due("where the listener is", x.round(), 0);
        x.walk(19);
        Check.due("at the other end", x.round(), 19);
        x.walk(1);
        Check.due("beside it", x.round(), 1);
        SingingWires y = new SingingWires();
        y.wire(19, 100, 5, 3000, 1500);
        Check.due("at the last place", y.round(), 19);
    }

    private static void roundToBothEnds() {
        Check.about("promise 17, \"how far the listener has to walk at least\"");
        for (int place = 0; place < 20; place++) {
            SingingWires x = new SingingWires();
            x.wire(12, 100, 5, 3000, 1500);
            x.wire(4, 100, 5, 3000, 1500);
            x.wire(9, 100, 5, 3000, 1500);
            x.walk(place);
            int far = place <= 4 ? 12 - place : place >= 12 ? place - 4 : 8 + Math.min(place - 4, 12 - place);
            Check.due("from " + place, x.round(), far);
        }
    }

    private static void roundComesToAllThatMayBe() {
        Check.about("promise 17, \"all wires that may be slack or are surely slack\"");
        SingingWires x = new SingingWires();
        x.wire(2, 100, 5, 3000, 1500);
        x.wire(9, 100, 5, 3000, 1500);
        Check.due("nothing known of both", x.round(), 9);
        x.walk(9);
        x.hear();
        x.walk(0);
        Check.due("9 is well", x.round(), 2);
        x.load(9, 150);
        Check.due("9 may be slack", x.round(), 9);
        x.load(9, 200);
        Check.due("9 is surely slack", x.round(), 9);
        x.load(9, 149);
        Check.due("9 is well", x.round(), 2);
    }

    private static void roundLeavesOutHeardBroken() {
        Check.about("promise 17, \"but were not heard to be broken\"");
        SingingWires x = new SingingWires();
        x.wire(2, 100, 5, 3000, 1500);
        x.wire(9, 100, 5, 100, 100);
        x.load(9, 11);
        Check.due("broken, but unheard", x.round(), 9);
        x.walk(9);
        x.hear();
        Check.due("heard to be broken", x.round(), 7);
        x.undo();
        x.walk(0);
        Check.due("unheard again", x.round(), 9);
    }

    // ---- weakest

    private static void weakestRange() {
        Check.about("promise 18, \"BAD_VALUE if what is neither 0 nor 1\"");
        SingingWires x = new SingingWires();
        for (int what : new int[] {-1, 2, MIN, MAX}) {
            Check.due("without wires, weakest(" + what + ")", x.weakest(what), BAD_VALUE);
        }
        x.wire(0, 100, 5, 3000, 1500);
        for (int what : new int[] {-1, 2, MIN, MAX}) {
            Check.due("weakest(" + what + ")", x.weakest(what), BAD_VALUE);
        }
    }

    private static void weakestOfNone() {
        Check.about("promise 18, \"NONE if no wire is whole\"");
        SingingWires x = new SingingWires();
        Check.due("no wire", x.weakest(0), NONE);
        Check.due("no wire", x.weakest(1), NONE);
        x.wire(0, 100, 5, 100, 100);
        Check.due("one whole wire", x.weakest(0), 0);
        Check.due("one whole wire", x.weakest(1), 1);
        x.load(0, 11);
        Check.due("a broken one", x.weakest(0), NONE);
        Check.due("a broken one", x.weakest(1), NONE);
        x.wire(9, 100, 5, 50000, 100);
        Check.due("another one", x.weakest(0), 1);
        Check.due("another one", x.weakest(1), 1);
    }

    private static void weakestTheLowest() {
        Check.about("promise 18, \"of several the lowest one\"");
        SingingWires x = new SingingWires();
        for (int number = 0; number < 8; number++) {
            x.wire(19 - number, 100, 5, 50000, 100);
        }
        Check.due("all alone", x.weakest(0), 0);
        Check.due("all alone", x.weakest(1), 1);
        SingingWires y = new SingingWires();
        y.wire(19, 100, 5, 50000, 100);
        y.wire(0, 100, 5, 150, 100);
        y.wire(1, 100, 5, 150, 100);
        y.load(0, 10);
        y.load(1, 10);
        Check.due("1 and 2 take each other with them", y.fallsWith(1), 6);
        Check.due("1 of these", y.weakest(0), 1);
        Check.due("with two", y.weakest(1), 2);
    }

    private static void weakestTheMost() {
        Check.about("promise 18, \"the wire whose breaking would break the most wires (with itself)\"");
        SingingWires x = new SingingWires();
        x.wire(10, 100, 5, 50000, 100);
        x.wire(0, 100, 5, 100, 100);
        x.wire(1, 100, 5, 199, 100);
        x.wire(19, 100, 5, 50000, 100);
        x.load(0, 10);
        Check.due("all alone", x.weakest(0), 0);
        x.load(1, 10);
        // Without 1, wire 2 has 200 of 199; without 2, wire 1 has 190 of 100.
        Check.due("fallsWith(1)", x.fallsWith(1), 6);
        Check.due("fallsWith(2)", x.fallsWith(2), 6);
        Check.due("the lower one", x.weakest(0), 1);
        Check.due("two", x.weakest(1), 2);
        SingingWires all = new SingingWires();
        for (int number = 0; number < 8; number++) {
            all.wire(number, 10, 1, 199, 0);
            all.load(number, number == 0 ? 0 : 10);
        }
        // Only the last one leaves all of its load to one neighbour.
        Check.due("the last one", all.weakest(0), 7);
        Check.due("takes seven with it, and the first", all.weakest(1), 8);
    }
}
