/** Promises 1 to 5: a new object, set, wire, load, days. */
public final class SettingUpTest {
    public static void main(String[] args) {
        newObject();
        set();
        setIsAChange();
        wire();
        wireRanges();
        wireLimits();
        wireIsSettled();
        load();
        loadIsShared();
        loadIsSettled();
        breakingSpreads();
        days();
        Check.end();
    }

    private static void newObject() {
        Check.about("promise 1, a new object");
        SingingWires x = new SingingWires();
        for (int what = 0; what <= 10; what++) {
            Check.due("count(" + what + ")", x.count(what), 0);
        }
        Check.due("count(11)", x.count(11), 10);
        Check.due("count(12)", x.count(12), 20);
        for (int place = 0; place < 20; place++) {
            Check.due("mostAt", x.mostAt(place), 1000);
            Check.due("load", x.load(place, 0), 0);
        }
        Check.due("ofWire(0, 0)", x.ofWire(0, 0), SingingWires.NO_SUCH);
        Check.due("undo of another object", new SingingWires().undo(), SingingWires.NOT_POSSIBLE);
        Check.due("restore of another object", new SingingWires().restore(0), SingingWires.NOT_POSSIBLE);
    }

    private static void set() {
        Check.about("promise 2, set");
        SingingWires x = new SingingWires();
        Check.due("set(CREEP, 0)", x.set(SingingWires.CREEP, 0), 10);
        Check.due("set(CREEP, 100)", x.set(0, 100), 0);
        Check.due("set(SPARE, 100)", x.set(SingingWires.SPARE, 100), 20);
        Check.due("set(SPARE, 0)", x.set(1, 0), 100);
        Check.due("count(11)", x.count(11), 100);
        Check.due("count(12)", x.count(12), 0);
        Check.due("set(0, 101)", x.set(0, 101), SingingWires.BAD_VALUE);
        Check.due("set(0, -1)", x.set(0, -1), SingingWires.BAD_VALUE);
        Check.due("set(1, 101)", x.set(1, 101), SingingWires.BAD_VALUE);
        Check.due("set(1, -1)", x.set(1, -1), SingingWires.BAD_VALUE);
        Check.due("set(2, 5)", x.set(2, 5), SingingWires.BAD_VALUE);
        Check.due("set(-1, 5)", x.set(-1, 5), SingingWires.BAD_VALUE);
        Check.due("count(11)", x.count(11), 100);
        Check.due("count(12)", x.count(12), 0);
        Check.due("count(10)", x.count(10), 4);
    }

    private static void setIsAChange() {
        SingingWires x = new SingingWires();
        Check.due("set to what it is", x.set(0, 10), 10);
        Check.due("count(10)", x.count(10), 1);
    }

    private static void wire() {
        Check.about("promise 3, wire");
        SingingWires x = new SingingWires();
        Check.due("wire", x.wire(0, 10, 1, 100, 0), 0);
        Check.due("wire", x.wire(19, 200, 20, 50000, 50000), 1);
        int[] due = {19, 200, 20, 50000, 50000, 0, 250, 0, 0, 1, SingingWires.NONE};
        for (int what = 0; what < due.length; what++) {
            Check.due("ofWire(1, " + what + ")", x.ofWire(1, what), due[what]);
        }
        Check.due("known(1, 0)", x.known(1, 0), SingingWires.NONE);
        Check.due("count(1)", x.count(1), 2);
        Check.due("count(10)", x.count(10), 2);
        Check.due("same place", x.wire(0, 10, 1, 100, 0), SingingWires.NOT_POSSIBLE);
        Check.due("tension as strength", x.wire(5, 10, 1, 100, 100), 2);
        Check.due("tension above strength", x.wire(6, 10, 1, 100, 101), SingingWires.NOT_POSSIBLE);
        Check.due("count(1)", x.count(1), 3);
        Check.due("count(10)", x.count(10), 3);
    }

    private static void wireRanges() {
        int[] good = {3, 50, 5, 2000, 1000};
        int[][] bad = {{-1, 20}, {9, 201}, {0, 21}, {99, 50001}, {-1, 50001}};
        for (int argument = 0; argument < 5; argument++) {
            for (int value : bad[argument]) {
                SingingWires x = new SingingWires();
                int[] a = good.clone();
                a[argument] = value;
                Check.due("argument " + argument + " = " + value,
                        x.wire(a[0], a[1], a[2], a[3], a[4]), SingingWires.BAD_VALUE);
                Check.due("count(1)", x.count(1), 0);
                Check.due("count(10)", x.count(10), 0);
            }
        }
        SingingWires x = new SingingWires();
        Check.due("extreme", x.wire(Integer.MIN_VALUE, 50, 5, 2000, 1000), SingingWires.BAD_VALUE);
        Check.due("extreme", x.wire(Integer.MAX_VALUE, 50, 5, 2000, 1000), SingingWires.BAD_VALUE);
    }

    private static void wireLimits() {
        SingingWires x = new SingingWires();
        for (int number = 0; number < 8; number++) {
            Check.due("wire", x.wire(2 * number, 50, 5, 2000, 1000), number);
        }
        Check.due("ninth", x.wire(19, 50, 5, 2000, 1000), SingingWires.TOO_MANY);
        Check.due("ninth, at a taken place", x.wire(0, 50, 5, 2000, 1000), SingingWires.TOO_MANY);
        Check.due("ninth, out of range", x.wire(20, 50, 5, 2000, 1000), SingingWires.BAD_VALUE);
        Check.due("count(1)", x.count(1), 8);
    }

    private static void wireIsSettled() {
        SingingWires x = new SingingWires();
        x.load(4, 20);
        Check.due("wire that breaks at once", x.wire(4, 50, 5, 199, 100), 0);
        Check.due("broken", x.ofWire(0, 5), 1);
        Check.due("tension", x.ofWire(0, 4), 0);
        Check.due("broken there, too", x.wire(4, 50, 5, 1000, 100), SingingWires.NOT_POSSIBLE);
        Check.due("wire that just holds", x.wire(5, 50, 5, 200, 100), 1);
        Check.due("whole", x.ofWire(1, 5), 0);
        Check.due("task", x.ofWire(1, 7), 200);
    }

    private static void load() {
        Check.about("promise 4, load");
        SingingWires x = new SingingWires();
        Check.due("load(0, 1000)", x.load(0, 1000), 0);
        Check.due("load(0, 7)", x.load(0, 7), 1000);
        Check.due("load(19, 5)", x.load(19, 5), 0);
        Check.due("load(0, 7)", x.load(0, 7), 7);
        Check.due("count(5)", x.count(5), 12);
        Check.due("load(20, 1)", x.load(20, 1), SingingWires.NO_SUCH);
        Check.due("load(-1, 1)", x.load(-1, 1), SingingWires.NO_SUCH);
        Check.due("load(-1, 1001)", x.load(-1, 1001), SingingWires.NO_SUCH);
        Check.due("load(3, 1001)", x.load(3, 1001), SingingWires.BAD_VALUE);
        Check.due("load(3, -1)", x.load(3, -1), SingingWires.BAD_VALUE);
        Check.due("count(5)", x.count(5), 12);
        Check.due("count(10)", x.count(10), 4);
    }

    private static void loadIsShared() {
        SingingWires x = new SingingWires();
        x.wire(5, 50, 5, 50000, 1000);
        x.wire(12, 50, 5, 50000, 1000);
        x.load(0, 11);
        Check.due("left of all", x.ofWire(0, 7), 110);
        Check.due("left of all", x.ofWire(1, 7), 0);
        x.load(19, 13);
        Check.due("right of all", x.ofWire(0, 7), 110);
        Check.due("right of all", x.ofWire(1, 7), 130);
        x.load(5, 100);
        Check.due("at its place", x.ofWire(0, 7), 1110);
        x.load(8, 100);
        Check.due("between, 100 * 3 / 7 = 42 to the right", x.ofWire(1, 7), 550);
        Check.due("between, 58 to the left", x.ofWire(0, 7), 1690);
        x.wire(8, 50, 5, 50000, 1000);
        Check.due("one at its place carries alone", x.ofWire(2, 7), 1000);
        Check.due("the left one", x.ofWire(0, 7), 1110);
        Check.due("the right one", x.ofWire(1, 7), 130);
    }

    private static void loadIsSettled() {
        SingingWires x = new SingingWires();
        x.wire(5, 50, 5, 1000, 700);
        x.wire(15, 50, 5, 1500, 700);
        x.load(5, 100);
        Check.due("task as strength", x.ofWire(0, 5), 0);
        x.load(15, 90);
        Check.due("load(5, 101)", x.load(5, 101), 100);
        Check.due("both break, one after the other", x.count(2), 2);
        Check.due("tasks of broken ones", x.ofWire(0, 7) + x.ofWire(1, 7), 0);
        Check.due("tensions of broken ones", x.ofWire(0, 4) + x.ofWire(1, 4), 0);
        Check.due("nobody carries", x.count(6), 191);
        Check.due("load(5, 0)", x.load(5, 0), 101);
        Check.due("they stay broken", x.count(2), 2);
    }

    // A wire that breaks leaves none of the others with less, so the order in which wires break
    // can't be seen from outside; that all who burst break, and none else, can be.
    private static void breakingSpreads() {
        SingingWires x = new SingingWires();
        x.wire(14, 50, 5, 300, 0);
        x.wire(4, 50, 5, 300, 0);
        x.wire(0, 50, 5, 1000, 0);
        x.wire(19, 50, 5, 50000, 0);
        x.wire(9, 50, 5, 390, 0);
        x.load(14, 20);
        x.load(4, 20);
        Check.due("all hold", x.count(2), 0);
        x.load(9, 40);
        Check.due("4 breaks and leaves 20 each to 0 and 1", x.ofWire(4, 5), 1);
        Check.due("0 breaks with 40", x.ofWire(0, 5), 1);
        Check.due("1 breaks with 40", x.ofWire(1, 5), 1);
        Check.due("2 holds", x.ofWire(2, 5), 0);
        Check.due("3 holds", x.ofWire(3, 5), 0);
        // 4, 18 and 14 of 20, 40 and 20 go to the right.
        Check.due("what 3 carries", x.ofWire(3, 7), 10 * (4 + 18 + 14));
        Check.due("what 2 carries", x.ofWire(2, 7), 10 * (16 + 22 + 6));
    }

    private static void days() {
        Check.about("promise 5, days");
        SingingWires x = new SingingWires();
        x.wire(0, 50, 5, 50000, 50000);
        x.wire(1, 50, 5, 50000, 1001);
        x.wire(2, 50, 5, 50000, 1);
        x.wire(3, 50, 5, 50000, 0);
        Check.due("days(0)", x.days(0), SingingWires.BAD_VALUE);
        Check.due("days(-1)", x.days(-1), SingingWires.BAD_VALUE);
        Check.due("days(101)", x.days(101), SingingWires.BAD_VALUE);
        Check.due("count(0)", x.count(0), 0);
        Check.due("days(1)", x.days(1), 0);
        Check.due("50000 - 500", x.ofWire(0, 4), 49500);
        Check.due("1001 - 10.01 rounded up", x.ofWire(1, 4), 990);
        Check.due("1 - 0.01 rounded up", x.ofWire(2, 4), 0);
        Check.due("0", x.ofWire(3, 4), 0);
        Check.due("days(1)", x.days(1), 0);
        Check.due("49500 - 495", x.ofWire(0, 4), 49005);
        Check.due("count(0)", x.count(0), 2);
        x.set(0, 0);
        Check.due("days(100)", x.days(100), 0);
        Check.due("without creep", x.ofWire(0, 4), 49005);
        Check.due("count(0)", x.count(0), 102);
        x.set(0, 100);
        x.days(1);
        Check.due("49005 - 4900.5 rounded up", x.ofWire(0, 4), 44104);
        Check.due("count(10)", x.count(10), 6);
        Check.due("undo", x.undo(), 5);
        Check.due("count(0)", x.count(0), 102);
    }
}
