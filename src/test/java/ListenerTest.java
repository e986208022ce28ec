/** Promises 6 to 8: walk, hear, tighten. */
public final class ListenerTest {
    public static void main(String[] args) {
        walk();
        hear();
        hearAgain();
        hearBounds();
        hearBroken();
        tighten();
        tightenErrors();
        Check.end();
    }

    private static void walk() {
        Check.about("promise 6, walk");
        SingingWires x = new SingingWires();
        Check.due("walk(19)", x.walk(19), 19);
        Check.due("walk(7)", x.walk(7), 12);
        Check.due("walk(7)", x.walk(7), 0);
        Check.due("walk(0)", x.walk(0), 7);
        Check.due("walk(-1)", x.walk(-1), SingingWires.NO_SUCH);
        Check.due("walk(20)", x.walk(20), SingingWires.NO_SUCH);
        Check.due("walk(min)", x.walk(Integer.MIN_VALUE), SingingWires.NO_SUCH);
        Check.due("count(3)", x.count(3), 0);
        Check.due("count(4)", x.count(4), 38);
        Check.due("count(10), also without a step", x.count(10), 4);
        x.undo();
        Check.due("count(3)", x.count(3), 7);
        Check.due("count(4)", x.count(4), 31);
    }

    private static void hear() {
        Check.about("promise 7, hear");
        SingingWires x = new SingingWires();
        Check.due("no wire here", x.hear(), SingingWires.NOT_POSSIBLE);
        Check.due("count(10)", x.count(10), 0);
        x.wire(4, 100, 5, 3000, 1500);
        Check.due("no wire here, still", x.hear(), SingingWires.NOT_POSSIBLE);
        x.walk(4);
        x.days(3);
        // 1500, 1485, 1470, 1455; 170 * 170 * 50000 = 1445000000, 171: 1462050000.
        Check.due("hear", x.hear(), 170);
        Check.due("known(0, 0)", x.known(0, 0), 3);
        Check.due("known(0, 1)", x.known(0, 1), 1445);
        Check.due("known(0, 2)", x.known(0, 2), 1462);
        Check.due("known(0, 3)", x.known(0, 3), 0);
        Check.due("count(10)", x.count(10), 4);
        x.days(2);
        // 1445 - 15 - 15 and 1462 - 15 - 15.
        Check.due("low bound, two days later", x.known(0, 1), 1415);
        Check.due("high bound, two days later", x.known(0, 2), 1432);
        Check.due("the day stays", x.known(0, 0), 3);
        x.undo();
        x.undo();
        Check.due("undone", x.known(0, 0), SingingWires.NONE);
    }

    private static void hearAgain() {
        SingingWires x = new SingingWires();
        x.wire(0, 200, 20, 50000, 30000);
        x.tighten(30000);
        Check.due("tightened: exact", x.known(0, 1), 30000);
        // 193 * 193 * 800000 = 29799200000, 194: 30108800000.
        Check.due("hear", x.hear(), 193);
        Check.due("whatever was known before", x.known(0, 1), 29800);
        Check.due("whatever was known before", x.known(0, 2), 30108);
    }

    private static void hearBounds() {
        SingingWires x = new SingingWires();
        x.wire(0, 10, 1, 50000, 50000);
        Check.due("the highest pitch of all", x.hear(), 22360);
        // 22360 * 22360 * 100 / 1000000 = 49996.96
        Check.due("low", x.known(0, 1), 49997);
        Check.due("high, 50000 at most", x.known(0, 2), 50000);
        x.tighten(0);
        Check.due("slack", x.hear(), 0);
        Check.due("low", x.known(0, 1), 0);
        Check.due("high", x.known(0, 2), 0);
        x.tighten(1);
        Check.due("pitch of 1", x.hear(), 100);
        Check.due("low", x.known(0, 1), 1);
        Check.due("high", x.known(0, 2), 1);
    }

    private static void hearBroken() {
        SingingWires x = new SingingWires();
        x.wire(0, 100, 5, 300, 300);
        x.hear();
        x.days(2);
        x.load(0, 31);
        Check.due("broken", x.ofWire(0, 5), 1);
        Check.due("not known yet", x.known(0, 3), 0);
        // 77 * 77 * 50000 = 296450000: 297 - 3 - 3.
        Check.due("old bound", x.known(0, 1), 291);
        x.days(1);
        Check.due("old bound goes on", x.known(0, 1), 288);
        Check.due("task as reckoned", x.known(0, 4), 310);
        Check.due("hear", x.hear(), SingingWires.NONE);
        Check.due("NONE is no error: a change", x.count(10), 6);
        Check.due("known(0, 0)", x.known(0, 0), 3);
        Check.due("known(0, 1)", x.known(0, 1), 0);
        Check.due("known(0, 2)", x.known(0, 2), 0);
        Check.due("known(0, 3)", x.known(0, 3), 1);
        Check.due("known(0, 4)", x.known(0, 4), 0);
        x.undo();
        Check.due("unheard again", x.known(0, 3), 0);
    }

    private static void tighten() {
        Check.about("promise 8, tighten");
        SingingWires x = new SingingWires();
        x.wire(3, 100, 5, 3000, 1500);
        x.walk(3);
        x.days(1);
        Check.due("tighten(3000)", x.tighten(3000), 1485);
        Check.due("tension", x.ofWire(0, 4), 3000);
        Check.due("known(0, 0)", x.known(0, 0), 1);
        Check.due("known(0, 1)", x.known(0, 1), 3000);
        Check.due("known(0, 2)", x.known(0, 2), 3000);
        Check.due("let go", x.tighten(0), 3000);
        Check.due("known(0, 1)", x.known(0, 1), 0);
        Check.due("known(0, 2)", x.known(0, 2), 0);
        Check.due("the same", x.tighten(0), 0);
        Check.due("count(10)", x.count(10), 6);
    }

    private static void tightenErrors() {
        SingingWires x = new SingingWires();
        Check.due("no wire, out of range", x.tighten(50001), SingingWires.BAD_VALUE);
        Check.due("no wire, out of range", x.tighten(-1), SingingWires.BAD_VALUE);
        Check.due("no wire", x.tighten(5), SingingWires.NOT_POSSIBLE);
        x.wire(0, 100, 5, 3000, 1500);
        Check.due("above strength", x.tighten(3001), SingingWires.NOT_POSSIBLE);
        Check.due("tension", x.ofWire(0, 4), 1500);
        Check.due("known(0, 0)", x.known(0, 0), SingingWires.NONE);
        x.load(0, 301);
        Check.due("broken", x.tighten(100), SingingWires.NOT_POSSIBLE);
        Check.due("tension", x.ofWire(0, 4), 0);
        Check.due("known(0, 0)", x.known(0, 0), SingingWires.NONE);
        Check.due("count(10)", x.count(10), 2);
    }
}
