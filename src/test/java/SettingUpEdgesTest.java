/** Each sentence of the document that names an edge, from "Settings" to "Days", and in promises 1 to 5. */
public final class SettingUpEdgesTest {
    private static final int NO_SUCH = -1, BAD_VALUE = -2, TOO_MANY = -4, NOT_POSSIBLE = -5, NONE = -6;

    public static void main(String[] args) {
        dayIsZeroAtFirst();
        creepRange();
        sparePercentRange();
        noSuchSetting();
        previousValue();
        twentyPlaces();
        loadRange();
        loadsAreZeroAtFirst();
        previousLoad();
        upToEightWires();
        numberedAsTheyCame();
        placeOfItsOwn();
        placeRange();
        lengthRange();
        massRange();
        strengthRange();
        tensionRange();
        tensionNotAboveStrength();
        wholeAtFirst();
        brokenHasNoTension();
        aloneAtItsPlace();
        nearestOnEachSide();
        sharesAreRoundedDown();
        oneSideAlone();
        nobodyCarries();
        taskIsTenTimes();
        slackBelowTask();
        tightAboveSpare();
        spareIsRoundedDown();
        tightAboveThousand();
        burstsAboveStrength();
        settlesAsLongAsOneBursts();
        breaksThatDay();
        settledWhenHung();
        daysRange();
        daysOneByOne();
        tensionLessRoundedUp();
        creepOfNoneAndAll();
        daysBreakNoWire();
        Check.end();
    }

    private static SingingWires one(int strength, int tension) {
        SingingWires x = new SingingWires();
        x.wire(0, 100, 5, strength, tension);
        return x;
    }

    // ---- conventions, settings

    private static void dayIsZeroAtFirst() {
        Check.about("\"The day is 0 at first\"");
        SingingWires x = one(3000, 1500);
        Check.due("count(0)", x.count(0), 0);
        Check.due("save(0)", x.save(0), 0);
        x.hear();
        Check.due("heard on", x.known(0, 0), 0);
    }

    private static void creepRange() {
        Check.about("\"CREEP (0 to 100; 10)\"");
        SingingWires x = new SingingWires();
        Check.due("first value", x.count(11), 10);
        Check.due("-1", x.set(0, -1), BAD_VALUE);
        Check.due("101", x.set(0, 101), BAD_VALUE);
        Check.due("0", x.set(0, 0), 10);
        Check.due("100", x.set(0, 100), 0);
        Check.due("99", x.set(0, 99), 100);
        Check.due("1", x.set(0, 1), 99);
        Check.due("SPARE stays", x.count(12), 20);
        Check.due("recorded", x.count(10), 4);
    }

    private static void sparePercentRange() {
        Check.about("\"SPARE (0 to 100; 20)\"");
        SingingWires x = new SingingWires();
        Check.due("first value", x.count(12), 20);
        Check.due("-1", x.set(1, -1), BAD_VALUE);
        Check.due("101", x.set(1, 101), BAD_VALUE);
        Check.due("0", x.set(1, 0), 20);
        Check.due("100", x.set(1, 100), 0);
        Check.due("99", x.set(1, 99), 100);
        Check.due("1", x.set(1, 1), 99);
        Check.due("CREEP stays", x.count(11), 10);
        Check.due("recorded", x.count(10), 4);
    }

    private static void noSuchSetting() {
        Check.about("promise 2, \"if there is no such setting\"");
        for (int setting : new int[] {-1, 2, 11, 12, Integer.MIN_VALUE, Integer.MAX_VALUE}) {
            SingingWires x = new SingingWires();
            Check.due("set(" + setting + ", 10)", x.set(setting, 10), BAD_VALUE);
            Check.due("CREEP", x.count(11), 10);
            Check.due("SPARE", x.count(12), 20);
        }
    }

    private static void previousValue() {
        Check.about("promise 2, \"Returns the previous value\"");
        SingingWires x = new SingingWires();
        Check.due("the same again", x.set(0, 10), 10);
        Check.due("from 10", x.set(0, 77), 10);
        Check.due("from 77", x.set(0, 10), 77);
        Check.due("the other", x.set(1, 77), 20);
    }

    // ---- deck and wires

    private static void twentyPlaces() {
        Check.about("promise 4, \"NO_SUCH if there is no such place\"");
        SingingWires x = new SingingWires();
        Check.due("-1", x.load(-1, 5), NO_SUCH);
        Check.due("0", x.load(0, 5), 0);
        Check.due("1", x.load(1, 5), 0);
        Check.due("18", x.load(18, 5), 0);
        Check.due("19", x.load(19, 5), 0);
        Check.due("20", x.load(20, 5), NO_SUCH);
        Check.due("no place comes before a bad load", x.load(20, -1), NO_SUCH);
        Check.due("no place comes before a bad load", x.load(-1, 1001), NO_SUCH);
        Check.due("all loads", x.count(5), 20);
    }

    private static void loadRange() {
        Check.about("promise 4, \"load: 0 to 1000\"");
        SingingWires x = new SingingWires();
        Check.due("1000", x.load(7, 1000), 0);
        Check.due("1001", x.load(7, 1001), BAD_VALUE);
        Check.due("it stays", x.count(5), 1000);
        Check.due("0", x.load(7, 0), 1000);
        Check.due("-1", x.load(7, -1), BAD_VALUE);
        Check.due("it stays", x.load(7, 999), 0);
        Check.due("1", x.load(7, 1), 999);
        Check.due("recorded", x.count(10), 4);
    }

    private static void loadsAreZeroAtFirst() {
        Check.about("\"a load (0 to 1000; 0 at first)\"");
        for (int place = 0; place < 20; place++) {
            Check.due("load(" + place + ", 1000)", new SingingWires().load(place, 1000), 0);
        }
        SingingWires x = new SingingWires();
        for (int place = 0; place < 20; place++) {
            x.load(place, 1000);
        }
        Check.due("all of them full", x.count(5), 20000);
        x.load(19, 0);
        Check.due("but one", x.count(5), 19000);
    }

    private static void previousLoad() {
        Check.about("promise 4, \"Returns the previous load\"");
        SingingWires x = one(100, 0);
        Check.due("from nothing", x.load(3, 10), 0);
        Check.due("the same", x.load(3, 10), 10);
        Check.due("also if a wire breaks by it", x.load(3, 11), 10);
        Check.due("also if nobody carries it", x.load(3, 0), 11);
        Check.due("of another place", x.load(4, 7), 0);
    }

    private static void upToEightWires() {
        Check.about("promise 3, \"TOO_MANY if there are 8 wires\"");
        SingingWires x = new SingingWires();
        for (int number = 0; number < 7; number++) {
            x.wire(number, 10, 1, 100, 0);
        }
        Check.due("the eighth, at a taken place", x.wire(6, 10, 1, 100, 0), NOT_POSSIBLE);
        Check.due("the eighth, too much tension", x.wire(7, 10, 1, 100, 101), NOT_POSSIBLE);
        Check.due("the eighth", x.wire(7, 10, 1, 100, 0), 7);
        Check.due("the ninth", x.wire(8, 10, 1, 100, 0), TOO_MANY);
        Check.due("too many before a taken place", x.wire(7, 10, 1, 100, 0), TOO_MANY);
        Check.due("too many before too much tension", x.wire(8, 10, 1, 100, 101), TOO_MANY);
        Check.due("out of range before too many", x.wire(8, 10, 1, 99, 0), BAD_VALUE);
        x.load(7, 1000);
        Check.due("broken ones are there, too", x.wire(19, 10, 1, 100, 0), TOO_MANY);
        Check.due("wires", x.count(1), 8);
        x.undo();
        x.undo();
        Check.due("one was undone", x.wire(19, 10, 1, 100, 0), 7);
    }

    private static void numberedAsTheyCame() {
        Check.about("\"numbered in the order in which they came\"");
        SingingWires x = new SingingWires();
        int[] places = {19, 0, 7, 3, 11, 5, 18, 1};
        for (int number = 0; number < 8; number++) {
            Check.due("wire at " + places[number], x.wire(places[number], 10 + number, 1, 100, 0), number);
        }
        for (int number = 0; number < 8; number++) {
            Check.due("its place", x.ofWire(number, 0), places[number]);
            Check.due("its length", x.ofWire(number, 1), 10 + number);
        }
    }

    private static void placeOfItsOwn() {
        Check.about("promise 3, \"if there is a wire at this place (a broken one, too)\"");
        for (int place : new int[] {0, 10, 19}) {
            SingingWires x = new SingingWires();
            x.wire(place, 10, 1, 100, 0);
            Check.due("a whole one", x.wire(place, 10, 1, 100, 0), NOT_POSSIBLE);
            Check.due("beside it", x.wire(place == 19 ? 18 : place + 1, 10, 1, 100, 0), 1);
            x.load(place, 1000);
            Check.due("they broke", x.count(2), 2);
            Check.due("a broken one", x.wire(place, 10, 1, 100, 0), NOT_POSSIBLE);
            Check.due("out of range comes first", x.wire(place, 10, 21, 100, 0), BAD_VALUE);
        }
    }

    /** The least and the greatest value are taken, the ones beside them are not. */
    private static void wireArgument(int argument, int least, int greatest) {
        int[] good = {10, 50, 5, 50000, 100};
        for (int value : new int[] {least - 1, least, least + 1, greatest - 1, greatest, greatest + 1}) {
            SingingWires x = new SingingWires();
            int[] a = good.clone();
            a[argument] = value;
            boolean taken = value >= least && value <= greatest;
            Check.due(value + "", x.wire(a[0], a[1], a[2], a[3], a[4]), taken ? 0 : BAD_VALUE);
            Check.due(value + ": wires", x.count(1), taken ? 1 : 0);
            Check.due(value + ": as given", x.ofWire(0, argument), taken ? value : NO_SUCH);
        }
    }

    private static void placeRange() {
        Check.about("promise 3, \"place: 0 to 19\"");
        wireArgument(0, 0, 19);
    }

    private static void lengthRange() {
        Check.about("promise 3, \"length: 10 to 200\"");
        wireArgument(1, 10, 200);
    }

    private static void massRange() {
        Check.about("promise 3, \"mass: 1 to 20\"");
        wireArgument(2, 1, 20);
    }

    private static void strengthRange() {
        Check.about("promise 3, \"strength: 100 to 50000\"");
        wireArgument(3, 100, 50000);
    }

    private static void tensionRange() {
        Check.about("promise 3, \"tension: 0 to 50000\"");
        wireArgument(4, 0, 50000);
        Check.due("out of range, not above strength", new SingingWires().wire(0, 50, 5, 100, 50001), BAD_VALUE);
    }

    private static void tensionNotAboveStrength() {
        Check.about("promise 3, \"or the tension is more than the strength\"");
        for (int strength : new int[] {100, 101, 7777, 49999}) {
            SingingWires x = new SingingWires();
            Check.due("one more than " + strength, x.wire(0, 50, 5, strength, strength + 1), NOT_POSSIBLE);
            Check.due("none hung", x.count(1), 0);
            Check.due("as much as " + strength, x.wire(0, 50, 5, strength, strength), 0);
            Check.due("one less", x.wire(1, 50, 5, strength, strength - 1), 1);
        }
    }

    private static void wholeAtFirst() {
        Check.about("\"is whole (at first)\"");
        SingingWires x = one(100, 100);
        Check.due("broken", x.ofWire(0, 5), 0);
        Check.due("broke on", x.ofWire(0, 10), NONE);
        Check.due("broken wires", x.count(2), 0);
        Check.due("heard to be broken", x.known(0, 3), 0);
        Check.due("known", x.known(0, 0), NONE);
    }

    private static void brokenHasNoTension() {
        Check.about("\"The tension of a broken wire is 0\"");
        SingingWires x = one(3000, 1500);
        x.load(0, 301);
        Check.due("tension", x.ofWire(0, 4), 0);
        Check.due("pitch", x.ofWire(0, 6), 0);
        x.days(1);
        Check.due("a day later", x.ofWire(0, 4), 0);
        x.load(0, 0);
        Check.due("without load", x.ofWire(0, 4), 0);
    }

    // ---- what wires have to carry

    private static void aloneAtItsPlace() {
        Check.about("\"if one is at its place, by this one alone\"");
        for (int place : new int[] {0, 9, 19}) {
            SingingWires x = new SingingWires();
            x.wire(place, 50, 5, 50000, 0);
            x.wire(place == 0 ? 1 : place - 1, 50, 5, 50000, 0);
            x.wire(place == 19 ? 17 : place + 2, 50, 5, 50000, 0);
            x.load(place, 77);
            Check.due("it", x.ofWire(0, 7), 770);
            Check.due("its neighbour", x.ofWire(1, 7), 0);
            Check.due("its other neighbour", x.ofWire(2, 7), 0);
        }
    }

    private static void nearestOnEachSide() {
        Check.about("\"the nearest whole wire to the left .. and the nearest one to the right\"");
        SingingWires x = new SingingWires();
        int[] places = {0, 4, 6, 12, 16, 19};
        for (int place : places) {
            x.wire(place, 50, 5, place == 6 ? 1000 : 50000, 0);
        }
        x.load(8, 99);
        int[] due = {0, 0, 10 * 66, 10 * 33, 0, 0};
        for (int number = 0; number < due.length; number++) {
            Check.due("task of " + number, x.ofWire(number, 7), due[number]);
        }
        // 6 breaks; 99 * 4 / 8 = 49 from 8, and 101 * 2 / 8 = 25 from 6, go to the right.
        x.load(6, 101);
        int[] later = {0, 10 * (50 + 76), 0, 10 * (49 + 25), 0, 0};
        for (int number = 0; number < later.length; number++) {
            Check.due("past a broken one, task of " + number, x.ofWire(number, 7), later[number]);
        }
    }

    private static void sharesAreRoundedDown() {
        Check.about("\"the right one carries load * d / (d + e), and the left one the rest\"");
        for (int place = 1; place <= 6; place++) {
            for (int load : new int[] {0, 1, 6, 7, 8, 999, 1000}) {
                SingingWires x = new SingingWires();
                x.wire(7, 50, 5, 50000, 0);
                x.wire(0, 50, 5, 50000, 0);
                x.load(place, load);
                int right = load * place / 7;
                Check.due(load + " at " + place + ", right", x.ofWire(0, 7), 10 * right);
                Check.due(load + " at " + place + ", left", x.ofWire(1, 7), 10 * (load - right));
            }
        }
        SingingWires wide = new SingingWires();
        wide.wire(0, 50, 5, 50000, 0);
        wide.wire(19, 50, 5, 50000, 0);
        wide.load(1, 18);
        Check.due("18 * 1 / 19 = 0 to the right", wide.ofWire(1, 7), 0);
        wide.load(1, 19);
        Check.due("19 * 1 / 19 = 1 to the right", wide.ofWire(1, 7), 10);
        wide.load(1, 0);
        wide.load(18, 1);
        Check.due("1 * 18 / 19 = 0 to the right", wide.ofWire(1, 7), 0);
        wide.load(18, 2);
        Check.due("2 * 18 / 19 = 1 to the right", wide.ofWire(1, 7), 10);
        Check.due("each load is shared by itself", twoOnes(), 0);
    }

    private static int twoOnes() {
        SingingWires x = new SingingWires();
        x.wire(0, 50, 5, 50000, 0);
        x.wire(4, 50, 5, 50000, 0);
        x.load(2, 1);
        x.load(3, 1);
        Check.due("both go to the left", x.ofWire(0, 7), 20);
        return x.ofWire(1, 7);
    }

    private static void oneSideAlone() {
        Check.about("\"if there is a whole wire on one side alone, this one carries all\"");
        SingingWires x = new SingingWires();
        x.wire(0, 50, 5, 50000, 0);
        x.load(19, 1000);
        Check.due("the left one", x.ofWire(0, 7), 10000);
        SingingWires y = new SingingWires();
        y.wire(19, 50, 5, 50000, 0);
        y.load(0, 1000);
        Check.due("the right one", y.ofWire(0, 7), 10000);
        y.wire(18, 50, 5, 100, 0);
        Check.due("the one beside it could not", y.ofWire(1, 5), 1);
        Check.due("the right one again", y.ofWire(0, 7), 10000);
    }

    private static void nobodyCarries() {
        Check.about("\"if there is no whole wire, nobody carries it\"");
        SingingWires x = new SingingWires();
        x.load(0, 3);
        x.load(19, 4);
        Check.due("no wire at all", x.count(6), 7);
        x.wire(10, 50, 5, 100, 0);
        Check.due("one whole wire", x.count(6), 0);
        x.load(10, 4);
        Check.due("it broke", x.count(6), 11);
        Check.due("its task", x.ofWire(0, 7), 0);
        x.wire(11, 50, 5, 50000, 0);
        Check.due("another carries all", x.ofWire(1, 7), 110);
        Check.due("nothing is left", x.count(6), 0);
    }

    private static void taskIsTenTimes() {
        Check.about("\"The task of a whole wire is 10 times all that it carries (0 for a broken one)\"");
        SingingWires x = one(50000, 0);
        Check.due("nothing", x.ofWire(0, 7), 0);
        x.load(0, 1);
        Check.due("one", x.ofWire(0, 7), 10);
        for (int place = 0; place < 5; place++) {
            x.load(place, 1000);
        }
        Check.due("5000, all of its strength", x.ofWire(0, 7), 50000);
        Check.due("it holds", x.ofWire(0, 5), 0);
        x.load(5, 1);
        Check.due("one more", x.ofWire(0, 5), 1);
        Check.due("broken", x.ofWire(0, 7), 0);
    }

    private static void slackBelowTask() {
        Check.about("\"It is slack if its tension is less than its task\"");
        int[][] due = {{0, 0, 0}, {0, 1, 1}, {9, 1, 1}, {10, 1, 0}, {11, 1, 0}, {2999, 300, 1}, {3000, 300, 0}};
        for (int[] d : due) {
            SingingWires x = one(3000, d[0]);
            x.load(0, d[1]);
            Check.due(d[0] + " for " + 10 * d[1], x.ofWire(0, 8), d[2]);
            Check.due("slack wires", x.count(7), d[2]);
        }
        SingingWires x = one(3000, 0);
        x.load(0, 301);
        Check.due("a broken one is not", x.ofWire(0, 8), 0);
        Check.due("slack wires", x.count(7), 0);
    }

    /** Whether a wire is too tight with this tension, load at its place, and SPARE. */
    private static void tight(int tension, int load, int spare, int want) {
        SingingWires x = one(50000, tension);
        x.load(0, load);
        x.set(1, spare);
        String call = tension + " for " + 10 * load + " and " + spare + " %";
        Check.due(call, x.ofWire(0, 9), want);
        Check.due(call + ", counted", x.count(8), want);
    }

    private static void tightAboveSpare() {
        Check.about("\"too tight if its tension is more than its task and SPARE percent of it\"");
        tight(2399, 200, 20, 0);
        tight(2400, 200, 20, 0);
        tight(2401, 200, 20, 1);
        tight(2000, 200, 0, 0);
        tight(2001, 200, 0, 1);
        tight(4000, 200, 100, 0);
        tight(4001, 200, 100, 1);
        tight(50000, 1000, 100, 1);
        SingingWires x = one(3000, 3000);
        x.load(0, 301);
        Check.due("a broken one is not", x.ofWire(0, 9), 0);
    }

    private static void spareIsRoundedDown() {
        Check.about("\"SPARE percent of it (rounded down)\"");
        // 1010 * 19 / 100 = 191.9, 1990 * 99 / 100 = 1970.1, 1110 * 1 / 100 = 11.1.
        tight(1201, 101, 19, 0);
        tight(1202, 101, 19, 1);
        tight(3960, 199, 99, 0);
        tight(3961, 199, 99, 1);
        tight(1121, 111, 1, 0);
        tight(1122, 111, 1, 1);
    }

    private static void tightAboveThousand() {
        Check.about("\"and also more than 1000\"");
        tight(1000, 0, 20, 0);
        tight(1001, 0, 20, 1);
        tight(1000, 0, 0, 0);
        tight(1001, 0, 100, 1);
        tight(1000, 99, 0, 0);
        tight(1001, 99, 0, 1);
        tight(0, 0, 0, 0);
    }

    private static void burstsAboveStrength() {
        Check.about("\"A wire bursts if its task is more than its strength\"");
        int[][] due = {{100, 10, 0}, {100, 11, 1}, {109, 10, 0}, {109, 11, 1}, {110, 11, 0}, {119, 12, 1}, {9999, 1000, 1},
            {10000, 1000, 0}};
        for (int[] d : due) {
            SingingWires x = one(d[0], 0);
            x.load(0, d[1]);
            Check.due("strength " + d[0] + ", load " + d[1], x.ofWire(0, 5), d[2]);
            Check.due("broken wires", x.count(2), d[2]);
        }
    }

    private static void settlesAsLongAsOneBursts() {
        Check.about("\"as long as some whole wire bursts\"");
        SingingWires x = new SingingWires();
        // Each falls by the load that the one before it leaves to it, the last two hold.
        int[] strengths = {100, 110, 120, 130, 140, 150, 50000, 50000};
        for (int number = 0; number < 8; number++) {
            x.wire(number, 50, 5, strengths[number], 0);
        }
        x.load(0, 10);
        x.load(1, 7);
        Check.due("all hold", x.count(2), 0);
        x.load(0, 11);
        Check.due("six fall", x.count(2), 6);
        for (int number = 0; number < 8; number++) {
            Check.due("broken " + number, x.ofWire(number, 5), number < 6 ? 1 : 0);
        }
        Check.due("all is with the next one", x.ofWire(6, 7), 180);
        Check.due("nothing with the last one", x.ofWire(7, 7), 0);
        x.load(0, 0);
        Check.due("what broke stays broken", x.count(2), 6);
        SingingWires all = new SingingWires();
        for (int number = 0; number < 8; number++) {
            all.wire(number, 50, 5, strengths[7 - number], 0);
        }
        all.load(4, 1000);
        all.load(10, 1000);
        all.load(11, 1000);
        all.load(12, 1000);
        all.load(13, 1000);
        Check.due("two hold", all.count(2), 6);
        all.load(14, 1);
        Check.due("all eight fall", all.count(2), 8);
        Check.due("nobody carries it", all.count(6), 5001);
    }

    private static void breaksThatDay() {
        Check.about("promise 9, \"10 the day in which it broke (NONE)\"");
        SingingWires x = new SingingWires();
        x.wire(0, 50, 5, 100, 0);
        x.wire(5, 50, 5, 200, 0);
        x.load(0, 11);
        Check.due("on day 0", x.ofWire(0, 10), 0);
        Check.due("whole", x.ofWire(1, 10), NONE);
        x.days(100);
        x.days(1);
        x.load(0, 21);
        Check.due("on day 101", x.ofWire(1, 10), 101);
        x.days(1);
        x.load(5, 99);
        Check.due("as before", x.ofWire(0, 10), 0);
        Check.due("as before", x.ofWire(1, 10), 101);
    }

    private static void settledWhenHung() {
        Check.about("promise 3, \"the bridge is settled then\"");
        SingingWires x = new SingingWires();
        x.load(0, 10);
        x.load(10, 11);
        Check.due("a wire that can carry", x.wire(0, 50, 5, 210, 210), 0);
        Check.due("whole", x.ofWire(0, 5), 0);
        Check.due("a wire that can't is hung all the same", x.wire(10, 50, 5, 109, 109), 1);
        Check.due("and breaks", x.ofWire(1, 5), 1);
        Check.due("its load comes back to the first", x.ofWire(0, 7), 210);
        Check.due("a wire that takes some", x.wire(19, 50, 5, 100, 0), 2);
        Check.due("11 * 10 / 19", x.ofWire(2, 7), 50);
        Check.due("the first has less", x.ofWire(0, 7), 160);
        Check.due("recorded with its number", x.count(10), 5);
    }

    // ---- days

    private static void daysRange() {
        Check.about("promise 5, \"days: 1 to 100\"");
        SingingWires x = new SingingWires();
        Check.due("0", x.days(0), BAD_VALUE);
        Check.due("101", x.days(101), BAD_VALUE);
        Check.due("the day", x.count(0), 0);
        Check.due("1", x.days(1), 0);
        Check.due("the day", x.count(0), 1);
        Check.due("100", x.days(100), 0);
        Check.due("the day", x.count(0), 101);
        Check.due("99", x.days(99), 0);
        Check.due("the day", x.count(0), 200);
        Check.due("recorded", x.count(10), 3);
    }

    private static void daysOneByOne() {
        Check.about("promise 5, \"Lets days pass\", one after the other");
        SingingWires x = one(50000, 50000);
        SingingWires y = one(50000, 50000);
        x.days(100);
        int tension = 50000;
        for (int day = 0; day < 100; day++) {
            y.days(1);
            tension -= tension / 100 + (tension % 100 > 0 ? 1 : 0);
            Check.due("one by one, day " + day, y.ofWire(0, 4), tension);
        }
        Check.due("at once", x.ofWire(0, 4), tension);
    }

    /** What is left of a tension when a day has passed. */
    private static void left(int tension, int creep, int want) {
        SingingWires x = one(50000, tension);
        x.set(0, creep);
        x.days(1);
        Check.due(tension + " with CREEP " + creep, x.ofWire(0, 4), want);
    }

    private static void tensionLessRoundedUp() {
        Check.about("\"less by tension * CREEP / 1000, rounded up\"");
        left(999, 10, 989);
        left(1000, 10, 990);
        left(1001, 10, 990);
        left(1100, 10, 1089);
        left(1101, 10, 1089);
        left(1, 1, 0);
        left(1, 100, 0);
        left(2, 100, 1);
        left(10, 100, 9);
        left(11, 100, 9);
        left(0, 10, 0);
        left(50000, 1, 49950);
        left(50000, 99, 45050);
        left(49999, 99, 45049);
    }

    private static void creepOfNoneAndAll() {
        Check.about("\"CREEP (0 to 100)\", at its edges");
        left(50000, 0, 50000);
        left(1, 0, 1);
        left(0, 0, 0);
        left(50000, 100, 45000);
        left(0, 100, 0);
    }

    private static void daysBreakNoWire() {
        Check.about("promise 5, \"Returns how many wires broke in these days\"");
        SingingWires x = one(100, 100);
        x.wire(9, 50, 5, 110, 99);
        x.load(0, 11);
        x.load(0, 0);
        x.load(9, 10);
        Check.due("one broke before", x.count(2), 1);
        Check.due("none in these days", x.days(100), 0);
        Check.due("the other is slack, but whole", x.ofWire(1, 8), 1);
        Check.due("broken wires", x.count(2), 1);
    }
}
