import java.util.ArrayList;
import java.util.List;

/** Sees all of an object that its answers show: the state, what undo gives back, what the slots hold, the pad. */
final class Twin {
    interface Maker {
        void prepare(SingingWires x);
    }

    interface Call {
        int on(SingingWires x);
    }

    private Twin() {
    }

    static SingingWires made(Maker maker) {
        SingingWires x = new SingingWires();
        maker.prepare(x);
        return x;
    }

    /** The call answers what is due, and leaves all as it was. */
    static void changesNothing(String name, Maker maker, Call call, int want) {
        SingingWires x = made(maker);
        Check.due(name, call.on(x), want);
        allTheSame("after " + name, y -> {
            maker.prepare(y);
            call.on(y);
        }, maker);
    }

    /** Two objects that were made in two ways can't be told from each other. */
    static void allTheSame(String name, Maker one, Maker other) {
        Check.same(name + ": what is seen", seen(made(one)), seen(made(other)));
        for (int undone = 0; undone <= 6; undone++) {
            Check.same(name + ": after " + undone + " undone", undone(one, undone), undone(other, undone));
        }
        for (int slot = 0; slot <= 1; slot++) {
            Check.same(name + ": slot " + slot, restored(one, slot), restored(other, slot));
        }
        Check.same(name + ": the pad", carriedOut(one), carriedOut(other));
    }

    /** What is seen by calls that change nothing. */
    static int[] seen(SingingWires x) {
        List<Integer> all = new ArrayList<>();
        for (int what = 0; what <= 12; what++) {
            all.add(x.count(what));
        }
        for (int wire = 0; wire < x.count(1); wire++) {
            for (int what = 0; what <= 10; what++) {
                all.add(x.ofWire(wire, what));
            }
            for (int what = 0; what <= 6; what++) {
                all.add(x.known(wire, what));
            }
            all.add(x.fallsWith(wire));
            all.add(x.slackIn(wire));
        }
        for (int place = 0; place < 20; place++) {
            all.add(x.mostAt(place));
        }
        all.add(x.round());
        all.add(x.weakest(0));
        all.add(x.weakest(1));
        all.add(x.fault());
        return numbers(all);
    }

    /** The state alone, without the pad and the history. */
    static int[] state(SingingWires x) {
        int[] all = seen(x);
        all[9] = 0;
        all[10] = 0;
        all[all.length - 1] = 0;
        return all;
    }

    /** The loads, place by place; they are taken away. */
    static int[] loads(SingingWires x) {
        int[] all = new int[20];
        for (int place = 0; place < 20; place++) {
            all[place] = x.load(place, 0);
        }
        return all;
    }

    private static int[] undone(Maker maker, int times) {
        SingingWires x = made(maker);
        List<Integer> all = new ArrayList<>();
        for (int i = 0; i < times; i++) {
            all.add(x.undo());
        }
        addAll(all, seen(x));
        addAll(all, loads(x));
        return numbers(all);
    }

    private static int[] restored(Maker maker, int slot) {
        SingingWires x = made(maker);
        List<Integer> all = new ArrayList<>();
        all.add(x.restore(slot));
        addAll(all, seen(x));
        addAll(all, loads(x));
        return numbers(all);
    }

    private static int[] carriedOut(Maker maker) {
        SingingWires x = made(maker);
        List<Integer> all = new ArrayList<>();
        all.add(x.carryOut());
        addAll(all, seen(x));
        addAll(all, loads(x));
        return numbers(all);
    }

    private static void addAll(List<Integer> all, int[] more) {
        for (int number : more) {
            all.add(number);
        }
    }

    private static int[] numbers(List<Integer> all) {
        int[] numbers = new int[all.size()];
        for (int i = 0; i < numbers.length; i++) {
            numbers[i] = all.get(i);
        }
        return numbers;
    }
}
