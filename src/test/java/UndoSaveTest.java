/** Promises 23 to 25: undo, save, restore. */
public final class UndoSaveTest {
    public static void main(String[] args) {
        undo();
        undoAfterAnError();
        undoOfEverything();
        undoOfEachChange();
        rowsAreUsedAgain();
        notRecorded();
        undoLeavesPadAndSlots();
        save();
        restore();
        restoreKeepsTheSlot();
        restoreIsAChange();
        Check.end();
    }

    private static void undo() {
        Check.about("promise 23, undo");
        SingingWires x = new SingingWires();
        Check.due("none", x.undo(), SingingWires.NOT_POSSIBLE);
        for (int place = 1; place <= 9; place++) {
            x.walk(place);
            Check.due("count(10)", x.count(10), Math.min(place, 6));
        }
        for (int left = 5; left >= 0; left--) {
            Check.due("undo", x.undo(), left);
            Check.due("place", x.count(3), 3 + left);
        }
        Check.due("the oldest were dropped", x.undo(), SingingWires.NOT_POSSIBLE);
        Check.due("place", x.count(3), 3);
        x.walk(19);
        Check.due("count(10)", x.count(10), 1);
        Check.due("undo", x.undo(), 0);
        Check.due("place", x.count(3), 3);
        Check.due("walked", x.count(4), 3);
    }

    private static void undoAfterAnError() {
        SingingWires x = new SingingWires();
        for (int place = 1; place <= 9; place++) {
            x.walk(place);
        }
        x.walk(20);
        x.hear();
        for (int left = 5; left >= 0; left--) {
            Check.due("undo", x.undo(), left);
            Check.due("place", x.count(3), 3 + left);
            Check.due("walked", x.count(4), 3 + left);
        }
    }

    private static void undoOfEverything() {
        SingingWires x = new SingingWires();
        x.wire(0, 100, 5, 500, 400);
        x.hear();
        int[] wireBefore = new int[11];
        int[] knownBefore = new int[7];
        for (int what = 0; what <= 10; what++) {
            wireBefore[what] = x.ofWire(0, what);
        }
        for (int what = 0; what <= 6; what++) {
            knownBefore[what] = x.known(0, what);
        }
        x.set(0, 50);
        x.set(1, 60);
        x.days(3);
        x.wire(7, 10, 1, 600, 500);
        x.load(0, 90);
        x.hear();
        Check.due("broken", x.known(0, 3), 1);
        for (int left = 5; left >= 0; left--) {
            Check.due("undo", x.undo(), left);
        }
        for (int what = 0; what <= 10; what++) {
            Check.due("ofWire(0, " + what + ")", x.ofWire(0, what), wireBefore[what]);
        }
        for (int what = 0; what <= 6; what++) {
            Check.due("known(0, " + what + ")", x.known(0, what), knownBefore[what]);
        }
        int[] due = {0, 1, 0, 0, 0, 0, 0, 0, 0, 0, 0, 10, 20};
        for (int what = 0; what <= 12; what++) {
            Check.due("count(" + what + ")", x.count(what), due[what]);
        }
        Check.due("the place of the undone wire is free", x.wire(7, 10, 1, 600, 500), 1);
    }

    private static int[] look(SingingWires x) {
        int[] all = new int[200];
        int n = 0;
        for (int what = 0; what <= 12; what++) {
            // Not the pad, and not how many changes can be undone.
            all[n++] = what == 9 || what == 10 ? 0 : x.count(what);
        }
        for (int wire = 0; wire < 8; wire++) {
            for (int what = 0; what <= 10; what++) {
                all[n++] = x.ofWire(wire, what);
            }
            for (int what = 0; what <= 6; what++) {
                all[n++] = x.known(wire, what);
            }
        }
        for (int place = 0; place < 20; place++) {
            all[n++] = x.mostAt(place);
        }
        return all;
    }

    private static void same(String call, int[] got, int[] want) {
        for (int i = 0; i < want.length; i++) {
            Check.due(call + ", number " + i, got[i], want[i]);
        }
    }

    private static int change(SingingWires x, int which) {
        switch (which) {
            case 0: return x.set(0, 55);
            case 1: return x.set(1, 55);
            case 2: return x.wire(12, 30, 4, 500, 300);
            case 3: return x.load(0, 990);
            case 4: return x.load(6, 3);
            case 5: return x.days(9);
            case 6: return x.walk(17);
            case 7: return x.hear();
            case 8: return x.tighten(20);
            case 9: return x.restore(0);
            default:
                x.put(Check.packed("d3;g9"));
                return x.carryOut();
        }
    }

    private static void undoOfEachChange() {
        for (int which = 0; which <= 10; which++) {
            SingingWires x = new SingingWires();
            x.wire(9, 70, 4, 800, 300);
            x.save(0);
            x.wire(0, 100, 5, 500, 400);
            x.load(3, 20);
            x.days(2);
            int[] before = look(x);
            int left = x.count(10);
            Check.due("change " + which + " goes well", change(x, which) < 0 ? 1 : 0, 0);
            Check.due("change " + which + " is recorded", x.count(10), left + 1);
            Check.due("undo of change " + which, x.undo(), left);
            same("after undo of change " + which, look(x), before);
        }
    }

    /** What a wire was that is undone must not be seen in the next one of the same number. */
    private static void rowsAreUsedAgain() {
        SingingWires x = new SingingWires();
        x.wire(0, 100, 5, 500, 400);
        x.tighten(300);
        x.load(0, 51);
        x.hear();
        Check.due("broken", x.known(0, 3), 1);
        x.save(0);
        for (int i = 0; i < 4; i++) {
            x.undo();
        }
        Check.due("no wires", x.count(1), 0);
        Check.due("another wire 0", x.wire(7, 20, 2, 900, 800), 0);
        SingingWires fresh = new SingingWires();
        fresh.wire(7, 20, 2, 900, 800);
        same("as new", look(x), look(fresh));
        x.walk(3);
        x.restore(0);
        int[] due = {0, 100, 5, 500, 0, 1, 0, 0, 0, 0, 0};
        for (int what = 0; what <= 10; what++) {
            Check.due("restored, ofWire(0, " + what + ")", x.ofWire(0, what), due[what]);
        }
    }

    private static void notRecorded() {
        SingingWires x = new SingingWires();
        x.set(0, 101);
        x.wire(20, 10, 1, 100, 0);
        x.load(20, 5);
        x.days(0);
        x.walk(20);
        x.hear();
        x.tighten(5);
        x.carryOut();
        x.restore(0);
        x.restore(2);
        x.undo();
        x.save(0);
        x.put('h');
        x.fault();
        x.wipe();
        x.round();
        Check.due("errors, and what is no change, record nothing", x.count(10), 0);
    }

    private static void undoLeavesPadAndSlots() {
        SingingWires x = new SingingWires();
        x.walk(5);
        x.put(Check.packed("g1"));
        x.days(4);
        x.save(1);
        Check.due("undo", x.undo(), 1);
        Check.due("undo", x.undo(), 0);
        Check.due("the pad stays", x.count(9), 2);
        Check.due("the slot stays", x.restore(1), 4);
        Check.due("place", x.count(3), 5);
        Check.due("the pad stays", x.count(9), 2);
    }

    private static void save() {
        Check.about("promise 24, save");
        SingingWires x = new SingingWires();
        Check.due("save(0)", x.save(0), 0);
        x.days(7);
        Check.due("save(1)", x.save(1), 7);
        Check.due("save(2)", x.save(2), SingingWires.BAD_VALUE);
        Check.due("save(-1)", x.save(-1), SingingWires.BAD_VALUE);
        Check.due("no change", x.count(10), 1);
        x.days(1);
        Check.due("overwritten", x.save(0), 8);
        x.days(1);
        Check.due("restore(0)", x.restore(0), 8);
        Check.due("restore(1)", x.restore(1), 7);
    }

    private static void restore() {
        Check.about("promise 25, restore");
        SingingWires x = new SingingWires();
        Check.due("nothing saved", x.restore(0), SingingWires.NOT_POSSIBLE);
        Check.due("nothing saved", x.restore(1), SingingWires.NOT_POSSIBLE);
        Check.due("restore(2)", x.restore(2), SingingWires.BAD_VALUE);
        Check.due("restore(-1)", x.restore(-1), SingingWires.BAD_VALUE);
        x.wire(3, 100, 5, 500, 400);
        x.walk(3);
        x.hear();
        x.load(3, 40);
        x.save(0);
        Check.due("the other slot", x.restore(1), SingingWires.NOT_POSSIBLE);
        x.set(0, 3);
        x.set(1, 4);
        x.days(9);
        x.load(3, 60);
        x.hear();
        x.walk(9);
        x.wire(9, 100, 5, 500, 400);
        x.put('z');
        Check.due("restore(0)", x.restore(0), 0);
        int[] due = {0, 1, 0, 3, 3, 40, 0, 0, 0, 1, 6, 10, 20};
        for (int what = 0; what <= 12; what++) {
            Check.due("count(" + what + ")", x.count(what), due[what]);
        }
        Check.due("tension", x.ofWire(0, 4), 400);
        Check.due("whole", x.ofWire(0, 5), 0);
        Check.due("known(0, 0)", x.known(0, 0), 0);
        Check.due("known(0, 3)", x.known(0, 3), 0);
        Check.due("task", x.ofWire(0, 7), 400);
    }

    private static void restoreKeepsTheSlot() {
        SingingWires x = new SingingWires();
        x.walk(4);
        x.save(0);
        x.walk(9);
        Check.due("restore", x.restore(0), 0);
        x.walk(11);
        x.days(1);
        Check.due("again", x.restore(0), 0);
        Check.due("place", x.count(3), 4);
    }

    private static void restoreIsAChange() {
        SingingWires x = new SingingWires();
        x.save(0);
        x.walk(4);
        x.restore(0);
        Check.due("count(10)", x.count(10), 2);
        Check.due("undo", x.undo(), 1);
        Check.due("place", x.count(3), 4);
        Check.due("undo", x.undo(), 0);
        Check.due("place", x.count(3), 0);
    }
}
