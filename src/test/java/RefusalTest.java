/**
 * "A call that returns an error changes nothing": each error of each method, in each state where it applies, neither
 * changes what is seen, nor what undo gives back, nor the slots, nor the pad. "What if; nothing changes": the same of
 * each call that only asks. And of two errors that both apply, the one that is named first is returned.
 */
public final class RefusalTest {
    private static final int NO_SUCH = -1, BAD_VALUE = -2, BAD_TEXT = -3, TOO_MANY = -4, NOT_POSSIBLE = -5;
    private static final int MIN = Integer.MIN_VALUE, MAX = Integer.MAX_VALUE;

    private final String name;
    private final Twin.Maker state;

    private RefusalTest(String name, Twin.Maker state) {
        this.name = name;
        this.state = state;
    }

    public static void main(String[] args) {
        RefusalTest fresh = new RefusalTest("a new object", x -> { });
        RefusalTest few = new RefusalTest("few wires", RefusalTest::few);
        RefusalTest full = new RefusalTest("all is full", RefusalTest::full);
        RefusalTest fallen = new RefusalTest("all wires broken", RefusalTest::fallen);
        RefusalTest undone = new RefusalTest("some undone", RefusalTest::undone);
        few.isSeen(new int[] {2, 3, 1, 4, 10, 11, 0, 0, 1, 4, 6, 10, 20});
        full.isSeen(new int[] {9, 8, 1, 2, 10, 161, 0, 1, 0, 60, 6, 15, 30});
        fallen.isSeen(new int[] {5, 2, 2, 3, 3, 91, 91, 0, 0, 0, 5, 10, 20});
        undone.isSeen(new int[] {1, 2, 0, 0, 0, 0, 0, 0, 1, 0, 3, 10, 20});
        for (RefusalTest each : new RefusalTest[] {fresh, few, full, fallen, undone}) {
            each.settingUpOutOfRange();
            each.listenerOutOfRange();
            each.askedOutOfRange();
            each.textOutOfRange();
            each.slotsOutOfRange();
            each.askingChangesNothing();
        }
        fresh.refusedByNew();
        few.refusedByFew();
        full.refusedByFull();
        fallen.refusedByFallen();
        undone.refusedByUndone();
        Check.end();
    }

    // ---- the states

    /** Wires 0 at place 4, 1 at place 12, 2 at place 7 (broken, heard so); the listener at 4; slot 1 is empty. */
    private static void few(SingingWires x) {
        x.wire(4, 100, 5, 3000, 1500);
        x.wire(12, 50, 2, 2500, 900);
        x.save(0);
        x.wire(7, 20, 1, 100, 90);
        x.load(7, 11);
        x.walk(7);
        x.hear();
        x.days(2);
        x.walk(4);
        Check.type(x, "g5;x");
    }

    /** Eight wires at 0, 2, .. 14, number 7 broken; history, slots and pad full; the listener at 2. */
    private static void full(SingingWires x) {
        for (int number = 0; number < 8; number++) {
            x.wire(2 * number, 10 + 20 * number, 1 + 2 * number, 1700 - 100 * number, 900 - 40 * number);
        }
        x.save(1);
        x.load(15, 101);
        x.load(3, 60);
        x.set(0, 15);
        x.set(1, 30);
        x.walk(6);
        x.hear();
        x.save(0);
        x.days(9);
        x.walk(2);
        x.tighten(800);
        Check.type(x, "g4;h;t700;p8=77;d3;g14;h;p9=88;g0;t1;h;d1;g2;t2;h;g6;h;h;h;h");
    }

    /** Both wires broken; the listener at the place of number 0, which it did not hear. */
    private static void fallen(SingingWires x) {
        x.wire(3, 40, 4, 900, 900);
        x.wire(8, 40, 4, 300, 100);
        x.tighten(5);
        x.days(5);
        x.walk(3);
        x.load(8, 91);
    }

    /** Six changes were recorded and three of them undone: rows of the history hold what is no more. */
    private static void undone(SingingWires x) {
        x.wire(0, 100, 5, 3000, 1500);
        x.hear();
        x.days(1);
        x.wire(5, 30, 3, 400, 400);
        x.load(5, 41);
        x.walk(5);
        x.hear();
        x.save(1);
        x.undo();
        x.undo();
        x.undo();
        x.walk(9);
        x.undo();
    }

    /** The state is the one that was meant. */
    private void isSeen(int[] counts) {
        Check.about("the state: " + name);
        SingingWires x = Twin.made(state);
        for (int what = 0; what < counts.length; what++) {
            Check.due("count(" + what + ")", x.count(what), counts[what]);
        }
    }

    // ---- errors of the arguments alone, the same in every state

    private void refused(String call, Twin.Call asked, int want) {
        Check.about("a call that returns an error changes nothing, " + name);
        Twin.changesNothing(call, state, asked, want);
    }

    private void settingUpOutOfRange() {
        int[][] settings = {{-1, 5}, {2, 5}, {MIN, 5}, {MAX, 5}, {0, -1}, {0, 101}, {0, MIN}, {0, MAX}, {1, -1}, {1, 101},
            {1, MIN}, {1, MAX}, {2, 101}};
        for (int[] a : settings) {
            refused("set(" + a[0] + ", " + a[1] + ")", x -> x.set(a[0], a[1]), BAD_VALUE);
        }
        // A free place; the other arguments are good.
        int[] good = {17, 50, 5, 2000, 1000};
        int[][] bad = {{-1, 20, MIN, MAX}, {9, 201, MIN, MAX}, {0, 21, MIN, MAX}, {99, 50001, MIN, MAX},
            {-1, 50001, MIN, MAX}};
        for (int argument = 0; argument < 5; argument++) {
            for (int value : bad[argument]) {
                int[] a = good.clone();
                a[argument] = value;
                refused("wire, argument " + argument + " = " + value, x -> x.wire(a[0], a[1], a[2], a[3], a[4]),
                        BAD_VALUE);
            }
        }
        for (int place : new int[] {-1, 20, MIN, MAX}) {
            refused("load(" + place + ", 5)", x -> x.load(place, 5), NO_SUCH);
            refused("load(" + place + ", 1001), no place first", x -> x.load(place, 1001), NO_SUCH);
        }
        for (int load : new int[] {-1, 1001, MIN, MAX}) {
            refused("load(0, " + load + ")", x -> x.load(0, load), BAD_VALUE);
            refused("load(19, " + load + ")", x -> x.load(19, load), BAD_VALUE);
        }
        for (int days : new int[] {0, -1, 101, MIN, MAX}) {
            refused("days(" + days + ")", x -> x.days(days), BAD_VALUE);
        }
    }

    private void listenerOutOfRange() {
        for (int place : new int[] {-1, 20, MIN, MAX}) {
            refused("walk(" + place + ")", x -> x.walk(place), NO_SUCH);
        }
        for (int tension : new int[] {-1, 50001, MIN, MAX}) {
            refused("tighten(" + tension + ")", x -> x.tighten(tension), BAD_VALUE);
        }
    }

    private void askedOutOfRange() {
        int wires = Twin.made(state).count(1);
        for (int wire : new int[] {-1, wires, 8, MIN, MAX}) {
            for (int other : new int[] {0, -1, 100001}) {
                String arguments = "(" + wire + ", " + other + "), no wire first";
                refused("ofWire" + arguments, x -> x.ofWire(wire, other), NO_SUCH);
                refused("known" + arguments, x -> x.known(wire, other), NO_SUCH);
                refused("pitchAt" + arguments, x -> x.pitchAt(wire, other), NO_SUCH);
                refused("tensionFor" + arguments, x -> x.tensionFor(wire, other), NO_SUCH);
            }
            refused("fallsWith(" + wire + ")", x -> x.fallsWith(wire), NO_SUCH);
            refused("slackIn(" + wire + ")", x -> x.slackIn(wire), NO_SUCH);
        }
        for (int wire = 0; wire < wires; wire++) {
            askedOutOfRange(wire);
        }
        for (int what : new int[] {-1, 13, MIN, MAX}) {
            refused("count(" + what + ")", x -> x.count(what), BAD_VALUE);
        }
        for (int what : new int[] {-1, 2, MIN, MAX}) {
            refused("weakest(" + what + "), also if no wire is whole", x -> x.weakest(what), BAD_VALUE);
        }
        for (int place : new int[] {-1, 20, MIN, MAX}) {
            refused("mostAt(" + place + ")", x -> x.mostAt(place), NO_SUCH);
        }
    }

    private void askedOutOfRange(int wire) {
        for (int what : new int[] {-1, 11, MIN, MAX}) {
            refused("ofWire(" + wire + ", " + what + ")", x -> x.ofWire(wire, what), BAD_VALUE);
        }
        for (int what : new int[] {-1, 7, MIN, MAX}) {
            refused("known(" + wire + ", " + what + ")", x -> x.known(wire, what), BAD_VALUE);
        }
        for (int tension : new int[] {-1, 50001, MIN, MAX}) {
            refused("pitchAt(" + wire + ", " + tension + ")", x -> x.pitchAt(wire, tension), BAD_VALUE);
        }
        for (int pitch : new int[] {-1, 100001, MIN, MAX}) {
            refused("tensionFor(" + wire + ", " + pitch + ")", x -> x.tensionFor(wire, pitch), BAD_VALUE);
        }
    }

    private void textOutOfRange() {
        long[] bad = {0, 32, 127, -1, Long.MIN_VALUE, 'h' << 8, (1L << 63) | 'h', 0x6820686868686868L};
        for (long characters : bad) {
            refused("put(" + characters + "), bad before too many", x -> x.put(characters), BAD_VALUE);
        }
    }

    private void slotsOutOfRange() {
        for (int slot : new int[] {-1, 2, MIN, MAX}) {
            refused("save(" + slot + ")", x -> x.save(slot), BAD_VALUE);
            refused("restore(" + slot + ")", x -> x.restore(slot), BAD_VALUE);
        }
    }

    // ---- errors that hang on the state

    private void refusedByNew() {
        refused("hear, no wire", x -> x.hear(), NOT_POSSIBLE);
        refused("tighten(0), no wire", x -> x.tighten(0), NOT_POSSIBLE);
        refused("tension 101 of strength 100", x -> x.wire(0, 10, 1, 100, 101), NOT_POSSIBLE);
        refused("carryOut of an empty pad", x -> x.carryOut(), BAD_TEXT);
        refused("undo", x -> x.undo(), NOT_POSSIBLE);
        refused("restore(0)", x -> x.restore(0), NOT_POSSIBLE);
        refused("restore(1)", x -> x.restore(1), NOT_POSSIBLE);
    }

    private void refusedByFew() {
        refused("wire at a taken place", x -> x.wire(12, 50, 5, 2000, 1000), NOT_POSSIBLE);
        refused("wire at the place of a broken one", x -> x.wire(7, 50, 5, 2000, 1000), NOT_POSSIBLE);
        refused("wire at a taken place, out of range first", x -> x.wire(12, 50, 5, 2000, 50001), BAD_VALUE);
        refused("tension above strength", x -> x.wire(0, 50, 5, 2000, 2001), NOT_POSSIBLE);
        refused("tighten above strength", x -> x.tighten(3001), NOT_POSSIBLE);
        refused("fallsWith a broken one", x -> x.fallsWith(2), NOT_POSSIBLE);
        refused("carryOut with a fault", x -> x.carryOut(), BAD_TEXT);
        refused("restore of the empty slot", x -> x.restore(1), NOT_POSSIBLE);
    }

    private void refusedByFull() {
        refused("ninth wire", x -> x.wire(19, 50, 5, 2000, 1000), TOO_MANY);
        refused("ninth wire at a taken place, too many first", x -> x.wire(0, 50, 5, 2000, 1000), TOO_MANY);
        refused("ninth wire with tension above strength, too many first", x -> x.wire(19, 50, 5, 2000, 2001), TOO_MANY);
        refused("fallsWith a broken one", x -> x.fallsWith(7), NOT_POSSIBLE);
        refused("tighten above strength", x -> x.tighten(1601), NOT_POSSIBLE);
        refused("put of one more", x -> x.put('h'), TOO_MANY);
        refused("put of eight more", x -> x.put(Check.packed("hhhhhhhh")), TOO_MANY);
        Twin.Maker before = state;
        new RefusalTest("all is full, no wire here", x -> {
            before.prepare(x);
            x.walk(1);
        }).refusedWithoutWire();
    }

    private void refusedWithoutWire() {
        refused("hear", x -> x.hear(), NOT_POSSIBLE);
        refused("tighten", x -> x.tighten(700), NOT_POSSIBLE);
    }

    private void refusedByFallen() {
        refused("tighten a broken one", x -> x.tighten(0), NOT_POSSIBLE);
        refused("tighten a broken one above strength", x -> x.tighten(901), NOT_POSSIBLE);
        refused("wire at the place of a broken one", x -> x.wire(3, 50, 5, 2000, 1000), NOT_POSSIBLE);
        refused("fallsWith a broken one", x -> x.fallsWith(0), NOT_POSSIBLE);
        refused("carryOut of an empty pad", x -> x.carryOut(), BAD_TEXT);
    }

    private void refusedByUndone() {
        refused("wire at a taken place", x -> x.wire(5, 50, 5, 2000, 1000), NOT_POSSIBLE);
        refused("tighten above strength", x -> x.tighten(3001), NOT_POSSIBLE);
        refused("restore of the empty slot", x -> x.restore(0), NOT_POSSIBLE);
    }

    // ---- what only asks

    private void askingChangesNothing() {
        Check.about("what only asks changes nothing, " + name);
        int wires = Twin.made(state).count(1);
        for (int number = 0; number < wires; number++) {
            int wire = number;
            asks("ofWire", x -> askedAll(x, wire));
            asks("pitchAt", x -> x.pitchAt(wire, 0) + x.pitchAt(wire, 1234) + x.pitchAt(wire, 50000));
            asks("tensionFor", x -> x.tensionFor(wire, 0) + x.tensionFor(wire, 77) + x.tensionFor(wire, 100000));
            asks("fallsWith", x -> x.fallsWith(wire));
            asks("slackIn", x -> x.slackIn(wire));
        }
        for (int place : new int[] {0, 3, 7, 19}) {
            asks("mostAt", x -> x.mostAt(place));
        }
        asks("count", RefusalTest::countedAll);
        asks("round", x -> x.round());
        asks("weakest", x -> x.weakest(0) + x.weakest(1));
        asks("fault", x -> x.fault());
    }

    private void asks(String call, Twin.Call asked) {
        Twin.allTheSame("after " + call, x -> {
            state.prepare(x);
            asked.on(x);
        }, state);
    }

    private static int askedAll(SingingWires x, int wire) {
        int all = 0;
        for (int what = 0; what <= 10; what++) {
            all += x.ofWire(wire, what);
        }
        for (int what = 0; what <= 6; what++) {
            all += x.known(wire, what);
        }
        return all;
    }

    private static int countedAll(SingingWires x) {
        int all = 0;
        for (int what = 0; what <= 12; what++) {
            all += x.count(what);
        }
        return all;
    }
}
