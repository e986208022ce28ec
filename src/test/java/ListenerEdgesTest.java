/** Each sentence of the document that names an edge, in "The listener", and in promises 6 to 8 and 10. */
public final class ListenerEdgesTest {
    private static final int NO_SUCH = -1, BAD_VALUE = -2, NOT_POSSIBLE = -5, NONE = -6;

    public static void main(String[] args) {
        atZeroAtFirst();
        walkRange();
        walkIsADistance();
        walkedInAll();
        noWireToHear();
        brokenIsNoneAndNoError();
        nothingIsKnownAtFirst();
        leastWithThisPitch();
        greatestWithThisPitch();
        strengthIsNoBound();
        greatestIsCapped();
        pitchOfNothing();
        whateverWasKnown();
        boundsLoosenEachByItself();
        boundsDownToZero();
        boundsWithoutCreep();
        changesOfCreepAreKnown();
        tightenedIsExact();
        tightenRange();
        tightenNotAboveStrength();
        tightenWithoutWholeWire();
        rangeBeforeNoWire();
        tensionBefore();
        brokenIsKnownWhenHeard();
        heardBrokenAgain();
        dayOfHearing();
        surelySlackBelowTask();
        surelyOnlyIfKnown();
        maybeSlackBelowTask();
        maybeOnlyIfNotSurely();
        heardBrokenIsNeither();
        unheardBrokenIsReckonedWhole();
        changesOfLoadsAreKnown();
        listenerDoesNotSettle();
        Check.end();
    }

    private static SingingWires one(int strength, int tension) {
        SingingWires x = new SingingWires();
        x.wire(0, 100, 5, strength, tension);
        return x;
    }

    private static void bounds(SingingWires x, int low, int high) {
        Check.due("low bound", x.known(0, 1), low);
        Check.due("high bound", x.known(0, 2), high);
    }

    // ---- walk

    private static void atZeroAtFirst() {
        Check.about("\"The listener is at a place (0 at first)\"");
        SingingWires x = new SingingWires();
        Check.due("place", x.count(3), 0);
        Check.due("walked", x.count(4), 0);
        x.wire(0, 100, 5, 3000, 1500);
        Check.due("hears the wire at 0", x.hear(), 173);
    }

    private static void walkRange() {
        Check.about("promise 6, \"NO_SUCH if there is no such place\"");
        SingingWires x = new SingingWires();
        Check.due("-1", x.walk(-1), NO_SUCH);
        Check.due("20", x.walk(20), NO_SUCH);
        Check.due("place", x.count(3), 0);
        Check.due("19", x.walk(19), 19);
        Check.due("20", x.walk(20), NO_SUCH);
        Check.due("place", x.count(3), 19);
        Check.due("18", x.walk(18), 1);
        Check.due("0", x.walk(0), 18);
        Check.due("-1", x.walk(-1), NO_SUCH);
        Check.due("place", x.count(3), 0);
        Check.due("walked", x.count(4), 38);
        Check.due("recorded", x.count(10), 3);
    }

    private static void walkIsADistance() {
        Check.about("promise 6, \"Returns how far it was\"");
        SingingWires x = new SingingWires();
        Check.due("to where it is", x.walk(0), 0);
        Check.due("recorded all the same", x.count(10), 1);
        Check.due("one to the right", x.walk(1), 1);
        Check.due("one to the left", x.walk(0), 1);
    }

    private static void walkedInAll() {
        Check.about("promise 11, \"4 how far the listener walked in all\"");
        SingingWires x = new SingingWires();
        for (int i = 0; i < 40; i++) {
            x.walk(i % 2 == 0 ? 19 : 0);
        }
        Check.due("forty times the deck", x.count(4), 760);
        x.save(0);
        x.walk(19);
        x.undo();
        Check.due("undone", x.count(4), 760);
        x.walk(5);
        x.restore(0);
        Check.due("restored", x.count(4), 760);
    }

    // ---- hear

    private static void noWireToHear() {
        Check.about("promise 7, \"NOT_POSSIBLE if there is no wire at this place\"");
        SingingWires x = new SingingWires();
        Check.due("no wire at all", x.hear(), NOT_POSSIBLE);
        x.wire(5, 100, 5, 3000, 1500);
        x.walk(4);
        Check.due("just left of it", x.hear(), NOT_POSSIBLE);
        x.walk(6);
        Check.due("just right of it", x.hear(), NOT_POSSIBLE);
        Check.due("nothing known", x.known(0, 0), NONE);
        x.walk(5);
        Check.due("there", x.hear(), 173);
        SingingWires ends = new SingingWires();
        ends.wire(19, 100, 5, 3000, 1500);
        ends.walk(19);
        Check.due("at the last place", ends.hear(), 173);
    }

    private static void brokenIsNoneAndNoError() {
        Check.about("promise 7, \"NONE if it is broken\", and \"NONE is not an error\"");
        SingingWires x = one(100, 100);
        x.load(0, 11);
        Check.due("hear", x.hear(), NONE);
        Check.due("known", x.known(0, 3), 1);
        Check.due("recorded", x.count(10), 3);
        Check.due("undo", x.undo(), 2);
        Check.due("not known", x.known(0, 3), 0);
    }

    private static void nothingIsKnownAtFirst() {
        Check.about("\"What is known of a wire: nothing at first\"");
        SingingWires x = one(3000, 0);
        for (int what = 0; what <= 2; what++) {
            Check.due("known(0, " + what + ")", x.known(0, what), NONE);
        }
        Check.due("heard to be broken", x.known(0, 3), 0);
        x.days(3);
        x.load(0, 301);
        for (int what = 0; what <= 2; what++) {
            Check.due("after days and its end, known(0, " + what + ")", x.known(0, what), NONE);
        }
    }

    /** Of all tensions with the pitch 173, from the least to the greatest, the same bounds are heard. */
    private static void leastWithThisPitch() {
        Check.about("\"the low bound is the least tension with this pitch\"");
        // 173 * 173 * 50000 = 1496450000; 20 * 20 * 50000 = 20000000 is met.
        Check.due("pitch of 1496", one(3000, 1496).hear(), 172);
        for (int tension = 1497; tension <= 1513; tension++) {
            SingingWires x = one(3000, tension);
            Check.due("pitch of " + tension, x.hear(), 173);
            bounds(x, 1497, 1513);
        }
        SingingWires x = one(3000, 20);
        Check.due("pitch of 20", x.hear(), 20);
        bounds(x, 20, 22);
        x.tighten(19);
        Check.due("pitch of 19", x.hear(), 19);
        bounds(x, 19, 19);
    }

    private static void greatestWithThisPitch() {
        Check.about("\"the high bound the greatest one\"");
        // 174 * 174 * 50000 = 1513800000; 40 * 40 * 50000 = 80000000 is met, so 79 has 39.
        SingingWires x = one(3000, 1514);
        Check.due("pitch of 1514", x.hear(), 174);
        bounds(x, 1514, 1531);
        x.tighten(79);
        Check.due("pitch of 79", x.hear(), 39);
        bounds(x, 77, 79);
        x.tighten(80);
        Check.due("pitch of 80", x.hear(), 40);
        bounds(x, 80, 84);
    }

    private static void strengthIsNoBound() {
        Check.about("the high bound may be above the wire's strength");
        SingingWires x = new SingingWires();
        x.wire(0, 200, 20, 100, 100);
        // 11 * 11 * 800000 = 96800000, 12 * 12 * 800000 = 115200000.
        x.hear();
        bounds(x, 97, 115);
        SingingWires y = one(100, 100);
        // 44 * 44 * 50000 = 96800000, 45 * 45 * 50000 = 101250000.
        y.hear();
        bounds(y, 97, 101);
    }

    private static void greatestIsCapped() {
        Check.about("\"the greatest one (50000 at most)\"");
        SingingWires x = new SingingWires();
        x.wire(0, 200, 20, 50000, 50000);
        // 250 * 250 * 800000 = 50000000000, 251: 50400800000.
        Check.due("250", x.hear(), 250);
        bounds(x, 50000, 50000);
        x.tighten(49999);
        // 249 * 249 * 800000 = 49600800000.
        Check.due("249", x.hear(), 249);
        bounds(x, 49601, 49999);
        SingingWires y = new SingingWires();
        y.wire(0, 199, 20, 50000, 50000);
        // 251 * 251 * 792020 = 49898052020, 252: 50296438080.
        Check.due("251", y.hear(), 251);
        bounds(y, 49899, 50000);
    }

    private static void pitchOfNothing() {
        Check.about("the least tension, 0, and its pitch");
        SingingWires x = one(3000, 0);
        Check.due("hear", x.hear(), 0);
        bounds(x, 0, 0);
        SingingWires heavy = new SingingWires();
        heavy.wire(0, 200, 20, 50000, 1);
        // 1 * 1 * 800000, 2 * 2 * 800000 = 3200000.
        Check.due("hear", heavy.hear(), 1);
        bounds(heavy, 1, 3);
        heavy.tighten(0);
        Check.due("hear", heavy.hear(), 0);
        bounds(heavy, 0, 0);
    }

    private static void whateverWasKnown() {
        Check.about("\"whatever was known of it\"");
        SingingWires x = one(3000, 1500);
        x.tighten(1500);
        bounds(x, 1500, 1500);
        x.hear();
        bounds(x, 1497, 1513);
        x.days(1);
        bounds(x, 1482, 1497);
        // 1485: 172 * 172 * 50000 = 1479200000.
        Check.due("hear", x.hear(), 172);
        bounds(x, 1480, 1496);
    }

    private static void boundsLoosenEachByItself() {
        Check.about("\"both become less as a tension does (low and high bound each by itself)\"");
        SingingWires x = one(50000, 2000);
        // 200 * 200 * 50000 = 2000000000, 201: 2020050000.
        x.hear();
        bounds(x, 2000, 2020);
        x.days(1);
        // 20 less, and 20.2 rounded up.
        bounds(x, 1980, 1999);
        x.days(1);
        // 19.8 and 19.99 rounded up.
        bounds(x, 1960, 1979);
        Check.due("tension", x.ofWire(0, 4), 1960);
        Check.due("heard on", x.known(0, 0), 0);
    }

    private static void boundsDownToZero() {
        Check.about("bounds that become 0 stay 0, and stay known");
        SingingWires x = one(100, 21);
        x.hear();
        bounds(x, 20, 22);
        x.days(20);
        bounds(x, 0, 2);
        x.days(2);
        bounds(x, 0, 0);
        x.days(100);
        bounds(x, 0, 0);
        Check.due("heard on", x.known(0, 0), 0);
    }

    private static void boundsWithoutCreep() {
        Check.about("bounds with CREEP 0 and 100");
        SingingWires x = one(3000, 1500);
        x.hear();
        x.set(0, 0);
        x.days(100);
        bounds(x, 1497, 1513);
        x.set(0, 100);
        x.days(1);
        // 149.7 and 151.3 rounded up.
        bounds(x, 1347, 1361);
    }

    private static void changesOfCreepAreKnown() {
        Check.about("\"Changes of CREEP and of loads are known\"");
        SingingWires x = one(3000, 2000);
        x.tighten(2000);
        x.days(1);
        bounds(x, 1980, 1980);
        x.set(0, 50);
        x.days(1);
        bounds(x, 1881, 1881);
        Check.due("as the tension", x.ofWire(0, 4), 1881);
    }

    // ---- tighten

    private static void tightenedIsExact() {
        Check.about("\"When it is tightened or let go, both are what its tension is then\"");
        SingingWires x = one(3000, 1500);
        x.tighten(1501);
        bounds(x, 1501, 1501);
        x.tighten(3);
        bounds(x, 3, 3);
        x.tighten(3);
        bounds(x, 3, 3);
        Check.due("the same is recorded, too", x.count(10), 4);
    }

    private static void tightenRange() {
        Check.about("promise 8, \"tension: 0 to 50000\"");
        SingingWires x = one(50000, 1500);
        Check.due("-1", x.tighten(-1), BAD_VALUE);
        Check.due("50001", x.tighten(50001), BAD_VALUE);
        Check.due("nothing known", x.known(0, 0), NONE);
        Check.due("50000", x.tighten(50000), 1500);
        Check.due("tension", x.ofWire(0, 4), 50000);
        Check.due("50001", x.tighten(50001), BAD_VALUE);
        Check.due("0", x.tighten(0), 50000);
        Check.due("-1", x.tighten(-1), BAD_VALUE);
        Check.due("tension", x.ofWire(0, 4), 0);
        Check.due("recorded", x.count(10), 3);
    }

    private static void tightenNotAboveStrength() {
        Check.about("promise 8, \"or the tension is more than its strength\"");
        for (int strength : new int[] {100, 101, 4321, 49999}) {
            SingingWires x = one(strength, 50);
            Check.due("one more than " + strength, x.tighten(strength + 1), NOT_POSSIBLE);
            Check.due("tension", x.ofWire(0, 4), 50);
            Check.due("known", x.known(0, 0), NONE);
            Check.due("as much as " + strength, x.tighten(strength), 50);
            Check.due("tension", x.ofWire(0, 4), strength);
        }
        SingingWires x = one(100, 50);
        x.wire(1, 50, 5, 200, 50);
        Check.due("the strength of the wire here", x.tighten(101), NOT_POSSIBLE);
        x.walk(1);
        Check.due("the strength of the other", x.tighten(200), 50);
        Check.due("more than that", x.tighten(201), NOT_POSSIBLE);
    }

    private static void tightenWithoutWholeWire() {
        Check.about("promise 8, \"NOT_POSSIBLE if there is no whole wire at this place\"");
        SingingWires x = new SingingWires();
        Check.due("no wire", x.tighten(0), NOT_POSSIBLE);
        x.wire(1, 100, 5, 300, 100);
        Check.due("no wire here", x.tighten(0), NOT_POSSIBLE);
        x.load(1, 31);
        x.walk(1);
        Check.due("a broken one", x.tighten(0), NOT_POSSIBLE);
        Check.due("a broken one", x.tighten(100), NOT_POSSIBLE);
        Check.due("it is not known", x.known(0, 0), NONE);
        x.hear();
        Check.due("a broken one that was heard", x.tighten(0), NOT_POSSIBLE);
        Check.due("recorded", x.count(10), 4);
    }

    private static void rangeBeforeNoWire() {
        Check.about("promise 8, BAD_VALUE comes before NOT_POSSIBLE");
        SingingWires x = new SingingWires();
        Check.due("no wire", x.tighten(50001), BAD_VALUE);
        Check.due("no wire", x.tighten(-1), BAD_VALUE);
        Check.due("no wire", x.tighten(50000), NOT_POSSIBLE);
        x.wire(0, 100, 5, 300, 100);
        Check.due("above strength", x.tighten(50001), BAD_VALUE);
        x.load(0, 31);
        Check.due("broken", x.tighten(50001), BAD_VALUE);
        Check.due("broken", x.tighten(-1), BAD_VALUE);
        Check.due("broken", x.tighten(50000), NOT_POSSIBLE);
    }

    private static void tensionBefore() {
        Check.about("promise 8, \"Returns its tension before\"");
        SingingWires x = one(3000, 1000);
        Check.due("as it was hung", x.tighten(7), 1000);
        x.days(1);
        Check.due("a day later", x.tighten(0), 6);
        Check.due("nothing", x.tighten(1), 0);
    }

    // ---- known

    private static void brokenIsKnownWhenHeard() {
        Check.about("\"That a wire broke is known only when it is heard; then both bounds are 0\"");
        SingingWires x = one(3000, 1500);
        x.hear();
        x.load(0, 301);
        bounds(x, 1497, 1513);
        Check.due("heard to be broken", x.known(0, 3), 0);
        x.days(1);
        bounds(x, 1482, 1497);
        Check.due("hear", x.hear(), NONE);
        bounds(x, 0, 0);
        Check.due("heard to be broken", x.known(0, 3), 1);
        SingingWires never = one(3000, 1500);
        never.load(0, 301);
        bounds(never, NONE, NONE);
        never.hear();
        bounds(never, 0, 0);
    }

    private static void heardBrokenAgain() {
        Check.about("promise 10, \"0 the day in which it was heard or tightened last\", of a broken one");
        SingingWires x = one(3000, 1500);
        x.days(4);
        x.load(0, 301);
        x.hear();
        Check.due("day", x.known(0, 0), 4);
        x.days(3);
        Check.due("day", x.known(0, 0), 4);
        Check.due("again", x.hear(), NONE);
        Check.due("day", x.known(0, 0), 7);
        bounds(x, 0, 0);
        x.tighten(0);
        Check.due("tighten is refused", x.known(0, 0), 7);
    }

    private static void dayOfHearing() {
        Check.about("promise 10, \"0 the day in which it was heard or tightened last (NONE)\"");
        SingingWires x = one(3000, 1500);
        Check.due("never", x.known(0, 0), NONE);
        x.days(100);
        Check.due("never, still", x.known(0, 0), NONE);
        x.tighten(1);
        Check.due("tightened", x.known(0, 0), 100);
        x.days(1);
        Check.due("the day goes on", x.known(0, 0), 100);
        x.hear();
        Check.due("heard", x.known(0, 0), 101);
        x.days(1);
        x.tighten(0);
        Check.due("let go", x.known(0, 0), 102);
        x.wire(9, 100, 5, 3000, 1500);
        Check.due("another one", x.known(1, 0), NONE);
    }

    /** Bounds 1497 to 1513, and this load at its place. */
    private static void heardWith(int load, int surely, int maybe) {
        SingingWires x = one(3000, 1500);
        x.hear();
        x.load(0, load);
        Check.due("load " + load + ", surely slack", x.known(0, 5), surely);
        Check.due("load " + load + ", may be slack", x.known(0, 6), maybe);
        x.walk(1);
        Check.due("load " + load + ", to be visited", x.round(), Math.max(surely, maybe));
    }

    private static void tightenedTo(int tension, int load, int surely, int maybe) {
        SingingWires x = one(3000, 1500);
        x.tighten(tension);
        x.load(0, load);
        Check.due(tension + " for " + 10 * load + ", surely slack", x.known(0, 5), surely);
        Check.due(tension + " for " + 10 * load + ", may be slack", x.known(0, 6), maybe);
    }

    private static void surelySlackBelowTask() {
        Check.about("\"surely slack if .. its high bound is less than its task\"");
        heardWith(151, 0, 1);
        heardWith(152, 1, 0);
        tightenedTo(1519, 152, 1, 0);
        tightenedTo(1520, 152, 0, 0);
        tightenedTo(1521, 152, 0, 0);
        tightenedTo(0, 0, 0, 0);
        tightenedTo(0, 1, 1, 0);
    }

    private static void surelyOnlyIfKnown() {
        Check.about("\"surely slack if something is known of it\", \"may be slack if .. nothing is known of it\"");
        SingingWires x = one(3000, 0);
        Check.due("nothing to carry, surely", x.known(0, 5), 0);
        Check.due("nothing to carry, maybe", x.known(0, 6), 1);
        x.load(0, 300);
        Check.due("much to carry, surely", x.known(0, 5), 0);
        Check.due("much to carry, maybe", x.known(0, 6), 1);
        x.load(0, 301);
        Check.due("broken and unheard, surely", x.known(0, 5), 0);
        Check.due("broken and unheard, maybe", x.known(0, 6), 1);
    }

    private static void maybeSlackBelowTask() {
        Check.about("\"may be slack if .. its low bound is less than this task\"");
        heardWith(149, 0, 0);
        heardWith(150, 0, 1);
        // A bound of 20 to 22, for 20: the low bound is not less.
        SingingWires x = one(3000, 20);
        x.hear();
        x.load(0, 2);
        Check.due("low bound 20 for 20", x.known(0, 6), 0);
        x.tighten(19);
        x.hear();
        Check.due("low bound 19, high bound 19 for 20", x.known(0, 5), 1);
        x.tighten(18);
        // 18 * 18 * 50000 = 16200000, so 17 and 18.
        x.load(0, 1);
        x.hear();
        Check.due("17 to 18 for 10", x.known(0, 6), 0);
    }

    private static void maybeOnlyIfNotSurely() {
        Check.about("\"it may be slack if it is not surely slack\"");
        heardWith(300, 1, 0);
        tightenedTo(0, 300, 1, 0);
    }

    private static void heardBrokenIsNeither() {
        Check.about("\"(0 for one that was)\", \"was not heard to be broken\"");
        SingingWires x = one(3000, 1500);
        x.wire(10, 100, 5, 50000, 0);
        x.load(0, 301);
        Check.due("task, unheard", x.known(0, 4), 3010);
        x.hear();
        for (int what = 4; what <= 6; what++) {
            Check.due("known(0, " + what + ")", x.known(0, what), 0);
        }
        Check.due("the other carries it", x.known(1, 4), 3010);
        x.load(0, 1000);
        for (int what = 4; what <= 6; what++) {
            Check.due("with more load, known(0, " + what + ")", x.known(0, what), 0);
        }
    }

    private static void unheardBrokenIsReckonedWhole() {
        Check.about("\"with all wires whole that were not heard to be broken\"");
        SingingWires x = one(3000, 1500);
        x.wire(4, 100, 5, 100, 100);
        x.wire(8, 100, 5, 3000, 1500);
        x.load(4, 11);
        x.load(6, 10);
        Check.due("broken", x.ofWire(1, 5), 1);
        // 11 * 4 / 8 = 5 and 10 * 6 / 8 = 7 go to the right.
        int[] tasks = {60 + 30, 0, 50 + 70};
        int[] reckoned = {0, 110 + 50, 50};
        for (int wire = 0; wire < 3; wire++) {
            Check.due("task of " + wire, x.ofWire(wire, 7), tasks[wire]);
            Check.due("reckoned of " + wire, x.known(wire, 4), reckoned[wire]);
        }
        x.walk(4);
        x.hear();
        for (int wire = 0; wire < 3; wire++) {
            Check.due("heard, reckoned of " + wire, x.known(wire, 4), x.ofWire(wire, 7));
        }
    }

    private static void changesOfLoadsAreKnown() {
        Check.about("\"Changes .. of loads are known\"");
        SingingWires x = one(3000, 1500);
        x.tighten(1500);
        Check.due("task", x.known(0, 4), 0);
        x.load(19, 151);
        Check.due("task, at once", x.known(0, 4), 1510);
        Check.due("surely slack, at once", x.known(0, 5), 1);
        x.load(19, 150);
        Check.due("not any more", x.known(0, 5), 0);
        x.wire(19, 100, 5, 3000, 1500);
        Check.due("another wire is known at once", x.known(0, 4), 0);
    }

    private static void listenerDoesNotSettle() {
        Check.about("tension does not burst a wire");
        SingingWires x = one(100, 0);
        x.load(0, 10);
        x.tighten(100);
        Check.due("tight", x.ofWire(0, 5), 0);
        x.tighten(0);
        Check.due("let go", x.ofWire(0, 5), 0);
        Check.due("task", x.ofWire(0, 7), 100);
    }
}
