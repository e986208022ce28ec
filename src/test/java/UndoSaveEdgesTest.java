/** Each sentence of the document that names an edge, in promises 23 to 25. */
public final class UndoSaveEdgesTest {
    private static final int BAD_VALUE = -2, NOT_POSSIBLE = -5, NONE = -6;

    public static void main(String[] args) {
        undoOfNothing();
        sixStatesAtMost();
        theOldestIsDropped();
        undoneAndDoneAgain();
        alsoIfNothingIsDifferent();
        eachChangeInAFullHistory();
        errorsRecordNothing();
        errorsDropNothing();
        whatIsNoChangeRecordsNothing();
        undoLeavesThePad();
        undoLeavesTheSlots();
        undoOfUndo();
        slotRange();
        slotsByThemselves();
        saveOverwrites();
        saveReturnsTheDay();
        saveAfterUndo();
        nothingSaved();
        rangeBeforeNothingSaved();
        restoreReturnsTheDayThen();
        restoreLeavesThePad();
        restoreLeavesTheHistory();
        restoreKeepsTheSlot();
        restoreOfTheSame();
        restoreBackToEmpty();
        Check.end();
    }

    // ---- undo

    private static void undoOfNothing() {
        Check.about("promise 23, \"NOT_POSSIBLE if there is none\"");
        SingingWires x = new SingingWires();
        Check.due("a new object", x.undo(), NOT_POSSIBLE);
        x.walk(4);
        Check.due("one", x.undo(), 0);
        Check.due("none is left", x.undo(), NOT_POSSIBLE);
        Check.due("again", x.undo(), NOT_POSSIBLE);
        Check.due("changes", x.count(10), 0);
        x.walk(5);
        Check.due("a new one", x.undo(), 0);
    }

    private static void sixStatesAtMost() {
        Check.about("promise 23, \"A history of at most 6 states is kept\"");
        for (int changes = 0; changes <= 20; changes++) {
            SingingWires x = new SingingWires();
            for (int i = 1; i <= changes; i++) {
                x.walk(i % 20);
                Check.due("changes after " + i, x.count(10), Math.min(i, 6));
            }
            for (int undone = 1; undone <= Math.min(changes, 6); undone++) {
                Check.due("undo " + undone + " of " + changes, x.undo(), Math.min(changes, 6) - undone);
                Check.due("place", x.count(3), (changes - undone) % 20);
            }
            Check.due("no more of " + changes, x.undo(), NOT_POSSIBLE);
        }
    }

    private static void theOldestIsDropped() {
        Check.about("promise 23, \"when one more is recorded, the oldest one is dropped\"");
        SingingWires x = new SingingWires();
        for (int load = 1; load <= 6; load++) {
            x.load(0, load);
        }
        x.load(0, 7);
        for (int load = 6; load >= 1; load--) {
            x.undo();
            Check.due("loads", x.count(5), load);
        }
        Check.due("the state without a load is dropped", x.undo(), NOT_POSSIBLE);
        Check.due("loads", x.count(5), 1);
        x.load(0, 99);
        Check.due("a change of the oldest that is left", x.undo(), 0);
        Check.due("loads", x.count(5), 1);
    }

    private static void undoneAndDoneAgain() {
        Check.about("promise 23, changes after undo");
        SingingWires x = new SingingWires();
        for (int load = 1; load <= 9; load++) {
            x.load(0, load);
        }
        x.undo();
        x.undo();
        Check.due("loads", x.count(5), 7);
        for (int load = 11; load <= 13; load++) {
            x.load(0, load);
        }
        Check.due("changes", x.count(10), 6);
        int[] due = {12, 11, 7, 6, 5, 4};
        for (int i = 0; i < due.length; i++) {
            Check.due("undo", x.undo(), 5 - i);
            Check.due("loads", x.count(5), due[i]);
        }
        Check.due("undo", x.undo(), NOT_POSSIBLE);
    }

    private static void recordedAsItIs(String call, Twin.Call change) {
        SingingWires x = new SingingWires();
        x.wire(0, 100, 5, 3000, 1500);
        x.tighten(1500);
        x.save(0);
        int[] before = Twin.state(x);
        Check.due(call + " is no error", change.on(x) >= 0 ? 1 : 0, 1);
        Check.same(call + " makes no difference", Twin.state(x), before);
        Check.due(call + " is recorded", x.count(10), 3);
        Check.due("undo", x.undo(), 2);
        Check.same("undone", Twin.state(x), before);
    }

    private static void alsoIfNothingIsDifferent() {
        Check.about("promise 23, \"(also if nothing is different then)\"");
        recordedAsItIs("set", x -> x.set(0, 10));
        recordedAsItIs("set", x -> x.set(1, 20));
        recordedAsItIs("load", x -> x.load(5, 0));
        recordedAsItIs("walk", x -> x.walk(0));
        recordedAsItIs("tighten", x -> x.tighten(1500));
        recordedAsItIs("restore", x -> x.restore(0));
        recordedAsItIs("carryOut", x -> x.put(Check.packed("g0")) < 0 ? -1 : x.carryOut());
        recordedAsItIs("carryOut of none", x -> x.put(Check.packed("g20")) < 0 ? -1 : x.carryOut());
    }

    private static int change(SingingWires x, int which) {
        switch (which) {
            case 0: return x.set(0, 55);
            case 1: return x.set(1, 55);
            case 2: return x.wire(12, 30, 4, 500, 300);
            case 3: return x.load(3, 990);
            case 4: return x.load(6, 3);
            case 5: return x.days(9);
            case 6: return x.walk(17);
            case 7: return x.hear();
            case 8: return x.tighten(20);
            case 9: return x.restore(0);
            default:
                x.put(Check.packed("d3;g9"));
                return x.carryOut();
        }
    }

    private static void fillHistory(SingingWires x) {
        x.wire(9, 70, 4, 800, 300);
        x.save(0);
        x.wire(0, 100, 5, 500, 400);
        for (int load = 10; load < 16; load++) {
            x.load(3, load);
        }
    }

    private static void eachChangeInAFullHistory() {
        Check.about("promise 23, each change of a full history drops the oldest state alone");
        for (int which = 0; which <= 10; which++) {
            SingingWires x = new SingingWires();
            fillHistory(x);
            Check.due("changes", x.count(10), 6);
            int[] before = Twin.state(x);
            Check.due("change " + which + " goes well", change(x, which) >= 0 ? 1 : 0, 1);
            Check.due("changes", x.count(10), 6);
            Check.due("undo", x.undo(), 5);
            Check.same("change " + which + " undone", Twin.state(x), before);
            for (int left = 4; left >= 0; left--) {
                Check.due("undo", x.undo(), left);
                Check.due("loads", x.count(5), left + 10);
            }
            Check.due("undo", x.undo(), NOT_POSSIBLE);
        }
    }

    private static int refused(SingingWires x, int which) {
        switch (which) {
            case 0: return x.set(0, 101);
            case 1: return x.set(2, 5);
            case 2: return x.wire(20, 30, 4, 500, 300);
            case 3: return x.wire(9, 30, 4, 500, 300);
            case 4: return x.wire(12, 30, 4, 500, 501);
            case 5: return x.load(20, 5);
            case 6: return x.load(3, 1001);
            case 7: return x.days(0);
            case 8: return x.days(101);
            case 9: return x.walk(20);
            case 10: return x.walk(-1);
            case 11: return x.tighten(50001);
            case 12: return x.tighten(501);
            case 13: return x.restore(1);
            case 14: return x.restore(2);
            case 15: return x.carryOut();
            case 16: return x.save(2);
            default: return x.put(' ');
        }
    }

    private static void errorsRecordNothing() {
        Check.about("promise 23, \"each method that is a change, and returns no error, records\"");
        for (int which = 0; which <= 17; which++) {
            SingingWires x = new SingingWires();
            x.wire(9, 70, 4, 800, 300);
            x.wire(0, 100, 5, 500, 400);
            x.load(3, 7);
            Check.due("call " + which + " is refused", refused(x, which) < 0 ? 1 : 0, 1);
            Check.due("changes", x.count(10), 3);
            Check.due("undo", x.undo(), 2);
            Check.due("loads", x.count(5), 0);
            Check.due("wires", x.count(1), 2);
            Check.due("undo", x.undo(), 1);
            Check.due("wires", x.count(1), 1);
        }
        SingingWires x = new SingingWires();
        Check.due("hear", x.hear(), NOT_POSSIBLE);
        Check.due("changes", x.count(10), 0);
    }

    private static void errorsDropNothing() {
        Check.about("promise 23, an error drops nothing of a full history");
        for (int which = 0; which <= 17; which++) {
            SingingWires x = new SingingWires();
            fillHistory(x);
            refused(x, which);
            for (int left = 5; left >= 0; left--) {
                Check.due("call " + which + ", undo", x.undo(), left);
                Check.due("loads", x.count(5), left == 0 ? 0 : left + 9);
            }
        }
    }

    private static void whatIsNoChangeRecordsNothing() {
        Check.about("promise 23, what is no change records nothing, in a full history");
        Twin.Maker calls = x -> {
            fillHistory(x);
            x.put('h');
            x.wipe();
            x.fault();
            x.save(0);
        };
        SingingWires x = Twin.made(calls);
        for (int left = 5; left >= 0; left--) {
            Check.due("undo", x.undo(), left);
            Check.due("loads", x.count(5), left == 0 ? 0 : left + 9);
        }
    }

    private static void undoLeavesThePad() {
        Check.about("promise 23, \"everything except the pad\"");
        SingingWires x = new SingingWires();
        Check.type(x, "g1;");
        x.walk(4);
        Check.type(x, "g7");
        x.undo();
        Check.due("the pad", x.count(9), 5);
        Check.due("carryOut", x.carryOut(), 2);
        Check.due("place", x.count(3), 7);
        x.undo();
        Check.due("the pad stays empty", x.count(9), 0);
        x.walk(4);
        Check.type(x, "g7");
        x.wipe();
        x.undo();
        Check.due("wipe is not undone", x.count(9), 0);
    }

    private static void undoLeavesTheSlots() {
        Check.about("promise 23, \"the slots\"");
        SingingWires x = new SingingWires();
        x.days(3);
        x.save(0);
        x.walk(4);
        x.save(1);
        x.undo();
        x.undo();
        Check.due("day", x.count(0), 0);
        Check.due("slot 1 is still there", x.restore(1), 3);
        Check.due("place", x.count(3), 4);
        Check.due("slot 0 is still there", x.restore(0), 3);
        Check.due("place", x.count(3), 0);
    }

    private static void undoOfUndo() {
        Check.about("promise 23, undo is no change, and is not undone");
        SingingWires x = new SingingWires();
        x.walk(1);
        x.walk(2);
        x.walk(3);
        Check.due("undo", x.undo(), 2);
        Check.due("undo", x.undo(), 1);
        Check.due("place", x.count(3), 1);
        Check.due("undo", x.undo(), 0);
        Check.due("place", x.count(3), 0);
    }

    // ---- save, restore

    private static void slotRange() {
        Check.about("promises 24 and 25, \"slot: 0 or 1\"");
        SingingWires x = new SingingWires();
        for (int slot : new int[] {-1, 2, Integer.MIN_VALUE, Integer.MAX_VALUE}) {
            Check.due("save(" + slot + ")", x.save(slot), BAD_VALUE);
            Check.due("restore(" + slot + ")", x.restore(slot), BAD_VALUE);
        }
        Check.due("nothing was saved", x.restore(0), NOT_POSSIBLE);
        Check.due("nothing was saved", x.restore(1), NOT_POSSIBLE);
        Check.due("save(0)", x.save(0), 0);
        Check.due("save(1)", x.save(1), 0);
        Check.due("restore(0)", x.restore(0), 0);
        Check.due("restore(1)", x.restore(1), 0);
    }

    private static void slotsByThemselves() {
        Check.about("promise 24, each slot by itself");
        SingingWires x = new SingingWires();
        x.walk(3);
        x.save(0);
        x.walk(8);
        x.save(1);
        x.walk(13);
        x.restore(0);
        Check.due("slot 0", x.count(3), 3);
        x.restore(1);
        Check.due("slot 1", x.count(3), 8);
        x.walk(1);
        x.save(0);
        x.restore(1);
        Check.due("slot 1, as it was", x.count(3), 8);
        x.restore(0);
        Check.due("slot 0, anew", x.count(3), 1);
    }

    private static void saveOverwrites() {
        Check.about("promise 24, \"and overwrites what was saved there\"");
        SingingWires x = new SingingWires();
        x.wire(3, 100, 5, 3000, 1500);
        x.wire(8, 100, 5, 3000, 1500);
        x.load(3, 40);
        x.save(0);
        x.undo();
        x.undo();
        x.save(0);
        x.load(7, 99);
        x.restore(0);
        Check.due("wires", x.count(1), 1);
        Check.due("loads", x.count(5), 0);
        Check.due("the next one", x.wire(8, 10, 1, 100, 7), 1);
        Check.due("its tension", x.ofWire(1, 4), 7);
    }

    private static void saveReturnsTheDay() {
        Check.about("promise 24, \"Returns the day\"");
        SingingWires x = new SingingWires();
        Check.due("day 0", x.save(1), 0);
        x.days(100);
        Check.due("day 100", x.save(1), 100);
        x.undo();
        Check.due("undone", x.save(1), 0);
    }

    private static void saveAfterUndo() {
        Check.about("promise 24, \"except the pad, the history and the slots\"");
        SingingWires x = new SingingWires();
        x.walk(3);
        x.save(0);
        Check.type(x, "g9");
        x.walk(5);
        x.walk(6);
        x.restore(0);
        Check.due("the pad", x.count(9), 2);
        Check.due("changes", x.count(10), 4);
        x.undo();
        Check.due("place", x.count(3), 6);
        x.undo();
        Check.due("place", x.count(3), 5);
    }

    private static void nothingSaved() {
        Check.about("promise 25, \"NOT_POSSIBLE if nothing was saved in it\"");
        SingingWires x = new SingingWires();
        x.walk(7);
        Check.due("slot 0", x.restore(0), NOT_POSSIBLE);
        Check.due("slot 1", x.restore(1), NOT_POSSIBLE);
        x.save(1);
        Check.due("slot 0", x.restore(0), NOT_POSSIBLE);
        Check.due("slot 1", x.restore(1), 0);
        SingingWires y = new SingingWires();
        y.save(0);
        Check.due("slot 1", y.restore(1), NOT_POSSIBLE);
        Check.due("changes", y.count(10), 0);
    }

    private static void rangeBeforeNothingSaved() {
        Check.about("promise 25, BAD_VALUE comes before NOT_POSSIBLE");
        SingingWires x = new SingingWires();
        Check.due("-1", x.restore(-1), BAD_VALUE);
        Check.due("2", x.restore(2), BAD_VALUE);
    }

    private static void restoreReturnsTheDayThen() {
        Check.about("promise 25, \"Returns the day then\"");
        SingingWires x = new SingingWires();
        x.days(5);
        x.save(0);
        x.days(100);
        Check.due("back to 5", x.restore(0), 5);
        Check.due("day", x.count(0), 5);
        x.undo();
        Check.due("undone", x.count(0), 105);
        x.save(1);
        x.restore(0);
        Check.due("on to 105", x.restore(1), 105);
    }

    private static void restoreLeavesThePad() {
        Check.about("promises 24 and 25, the pad is not saved");
        SingingWires x = new SingingWires();
        Check.type(x, "g1;g2");
        x.save(0);
        x.wipe();
        x.restore(0);
        Check.due("it does not come back", x.count(9), 0);
        Check.type(x, "g3");
        x.restore(0);
        Check.due("it stays", x.count(9), 2);
        Check.due("carryOut", x.carryOut(), 1);
        Check.due("place", x.count(3), 3);
    }

    private static void restoreLeavesTheHistory() {
        Check.about("promises 24 and 25, the history is not saved");
        SingingWires x = new SingingWires();
        x.save(0);
        for (int place = 1; place <= 3; place++) {
            x.walk(place);
        }
        x.restore(0);
        Check.due("changes", x.count(10), 4);
        for (int left = 3; left >= 0; left--) {
            Check.due("undo", x.undo(), left);
            Check.due("place", x.count(3), left);
        }
    }

    private static void restoreKeepsTheSlot() {
        Check.about("promise 25, \"which keeps it\"");
        SingingWires x = new SingingWires();
        x.wire(3, 100, 5, 3000, 1500);
        x.save(0);
        for (int i = 0; i < 3; i++) {
            Check.due("restore", x.restore(0), 0);
            Check.due("tension", x.ofWire(0, 4), 1500);
            Check.due("loads", x.count(5), 0);
            Check.due("creep", x.count(11), 10);
            Check.due("known", x.known(0, 0), NONE);
            x.walk(3);
            x.hear();
            x.days(2);
            x.load(5, 301);
            x.set(0, 77);
            x.wire(9, 100, 5, 3000, 1500);
        }
    }

    private static void restoreOfTheSame() {
        Check.about("promise 25, \"This is a change\"");
        SingingWires x = new SingingWires();
        x.save(0);
        for (int i = 1; i <= 8; i++) {
            Check.due("restore", x.restore(0), 0);
            Check.due("changes", x.count(10), Math.min(i, 6));
        }
    }

    private static void restoreBackToEmpty() {
        Check.about("promise 25, a new object, saved and restored");
        SingingWires x = new SingingWires();
        x.save(1);
        fillHistory(x);
        x.days(3);
        x.walk(9);
        x.hear();
        x.restore(1);
        Check.same("as new", Twin.state(x), Twin.state(new SingingWires()));
        Check.same("without loads", Twin.loads(x), new int[20]);
        SingingWires y = new SingingWires();
        y.save(1);
        fillHistory(y);
        y.restore(1);
        for (int number = 0; number < 8; number++) {
            Check.due("wires can be hung again", y.wire(number, 10, 1, 100, 50), number);
        }
        Check.due("wires", y.count(1), 8);
    }
}
