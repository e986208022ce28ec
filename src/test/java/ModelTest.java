import java.util.Random;

/** All promises: long runs of calls, ordinary and wrong ones, with the answers of the Model. */
public final class ModelTest {
    private static final int RUNS = 150;
    private static final int CALLS = 512;
    private static final int[] EXTREMES = {-1, 0, 1, 20, 100, 101, 1000, 1001, 50000, 50001, 99999, 100000, 100001,
        Integer.MIN_VALUE, Integer.MAX_VALUE, -6};

    private final Random random;
    private final SingingWires x = new SingingWires();
    private final Model model = new Model();
    // Some runs have weak wires, that break all the time, and some strong ones.
    private final int strongest;
    private final int heaviest;

    private ModelTest(int seed) {
        random = new Random(seed);
        strongest = new int[] {400, 3000, 15000, 50000}[seed % 4];
        heaviest = new int[] {30, 150, 1000}[seed % 3];
    }

    public static void main(String[] args) {
        for (int run = 0; run < RUNS; run++) {
            Check.about("run " + run);
            new ModelTest(run).play();
        }
        Check.end();
    }

    private void play() {
        for (int call = 0; call < CALLS; call++) {
            if (call % 40 == 39) {
                compareAll();
            }
            switch (random.nextInt(12)) {
                case 0: case 1: setUp(); break;
                case 2: case 3: case 4: listen(); break;
                case 5: case 6: case 7: ask(); break;
                case 8: case 9: text(); break;
                case 10: putAnything(); break;
                default: history(); break;
            }
        }
    }

    private int number(int from, int to) {
        if (random.nextInt(25) == 0) {
            return EXTREMES[random.nextInt(EXTREMES.length)];
        }
        if (random.nextInt(15) == 0) {
            return random.nextBoolean() ? from - 1 : to + 1;
        }
        if (random.nextInt(10) == 0) {
            return random.nextBoolean() ? from : to;
        }
        return from + random.nextInt(to - from + 1);
    }

    /** A place, most often one where there is a wire. */
    private int place() {
        int wires = x.count(1);
        if (wires > 0 && random.nextInt(4) > 0) {
            return x.ofWire(random.nextInt(wires), 0);
        }
        return number(0, 19);
    }

    private int wireNumber() {
        return number(0, Math.max(0, x.count(1) - 1));
    }

    private void setUp() {
        int a = random.nextInt(5);
        if (a == 0) {
            int setting = number(0, 1), value = random.nextInt(3) == 0 ? number(0, 100) : random.nextInt(12);
            Check.due("set(" + setting + ", " + value + ")", x.set(setting, value), model.set(setting, value));
        } else if (a <= 2) {
            int place = number(0, 19), length = number(10, 200), mass = number(1, 20);
            int strength = number(100, strongest), tension = number(0, Math.min(Math.max(strength, 1), strongest));
            Check.due("wire(" + place + ", " + length + ", " + mass + ", " + strength + ", " + tension + ")",
                    x.wire(place, length, mass, strength, tension), model.wire(place, length, mass, strength, tension));
        } else if (a == 3) {
            int place = number(0, 19), load = number(0, heaviest);
            Check.due("load(" + place + ", " + load + ")", x.load(place, load), model.load(place, load, true));
        } else {
            int days = random.nextInt(3) == 0 ? number(1, 100) : 1 + random.nextInt(5);
            Check.due("days(" + days + ")", x.days(days), model.days(days, true));
        }
    }

    private void listen() {
        int a = random.nextInt(6);
        if (a <= 1) {
            int place = place();
            Check.due("walk(" + place + ")", x.walk(place), model.walk(place, true));
        } else if (a <= 4) {
            Check.due("hear()", x.hear(), model.hear(true));
        } else {
            int tension = number(0, strongest);
            Check.due("tighten(" + tension + ")", x.tighten(tension), model.tighten(tension, true));
        }
    }

    private void ask() {
        int wire = wireNumber();
        switch (random.nextInt(8)) {
            case 0:
                int tension = number(0, 50000);
                Check.due("pitchAt(" + wire + ", " + tension + ")", x.pitchAt(wire, tension), model.pitchAt(wire, tension));
                break;
            case 1:
                int pitch = random.nextBoolean() ? number(0, 100000) : number(0, 1500);
                Check.due("tensionFor(" + wire + ", " + pitch + ")",
                        x.tensionFor(wire, pitch), model.tensionFor(wire, pitch));
                break;
            case 2:
                Check.due("fallsWith(" + wire + ")", x.fallsWith(wire), model.fallsWith(wire));
                break;
            case 3:
                int place = number(0, 19);
                Check.due("mostAt(" + place + ")", x.mostAt(place), model.mostAt(place));
                break;
            case 4:
                Check.due("slackIn(" + wire + ")", x.slackIn(wire), model.slackIn(wire));
                break;
            case 5:
                Check.due("round()", x.round(), model.round());
                break;
            case 6:
                int what = number(0, 1);
                Check.due("weakest(" + what + ")", x.weakest(what), model.weakest(what));
                break;
            default:
                look(wire);
                break;
        }
    }

    private void look(int wire) {
        int what = number(0, 12);
        Check.due("ofWire(" + wire + ", " + what + ")", x.ofWire(wire, what), model.ofWire(wire, what));
        Check.due("known(" + wire + ", " + what + ")", x.known(wire, what), model.known(wire, what));
        Check.due("count(" + what + ")", x.count(what), model.count(what));
    }

    private void text() {
        int orders = 1 + random.nextInt(5);
        StringBuilder text = new StringBuilder();
        for (int i = 0; i < orders; i++) {
            text.append(i > 0 ? ";" : "").append(order());
        }
        if (random.nextInt(5) == 0) {
            int at = random.nextInt(text.length());
            text.setCharAt(at, "ghtpd0123456789;=x".charAt(random.nextInt(18)));
        }
        for (int from = 0; from < text.length(); ) {
            int to = Math.min(text.length(), from + 1 + random.nextInt(8));
            putNumber(Check.packed(text.substring(from, to)));
            from = to;
        }
        Check.due("fault() of " + model.pad, x.fault(), model.fault());
        Check.due("carryOut() of " + model.pad, x.carryOut(), model.carryOut());
        if (random.nextInt(3) > 0) {
            Check.due("wipe()", x.wipe(), model.wipe());
        }
    }

    private String order() {
        switch (random.nextInt(5)) {
            case 0: return "g" + Math.max(0, place());
            case 1: return "h";
            case 2: return "t" + Math.max(0, number(0, strongest));
            case 3: return "p" + Math.max(0, number(0, 19)) + "=" + Math.max(0, number(0, heaviest));
            default: return "d" + Math.max(0, number(1, 4));
        }
    }

    private void putAnything() {
        long characters = random.nextLong();
        if (random.nextBoolean()) {
            characters = characters >>> 8 * random.nextInt(8) & 0x7F7F7F7F7F7F7F7FL;
        }
        putNumber(characters);
        Check.due("fault() of " + model.pad, x.fault(), model.fault());
        if (random.nextInt(4) == 0) {
            Check.due("wipe()", x.wipe(), model.wipe());
        }
    }

    private void putNumber(long characters) {
        Check.due("put(" + characters + ")", x.put(characters), model.put(characters));
    }

    private void history() {
        int slot = number(0, 1);
        switch (random.nextInt(4)) {
            case 0:
                Check.due("save(" + slot + ")", x.save(slot), model.save(slot));
                break;
            case 1:
                Check.due("restore(" + slot + ")", x.restore(slot), model.restore(slot));
                break;
            default:
                Check.due("undo()", x.undo(), model.undo());
                break;
        }
    }

    private void compareAll() {
        for (int what = 0; what <= 12; what++) {
            Check.due("count(" + what + ")", x.count(what), model.count(what));
        }
        for (int wire = 0; wire < model.count(1); wire++) {
            for (int what = 0; what <= 10; what++) {
                Check.due("ofWire(" + wire + ", " + what + ")", x.ofWire(wire, what), model.ofWire(wire, what));
                Check.due("known(" + wire + ", " + what + ")", x.known(wire, what), model.known(wire, what));
            }
            Check.due("fallsWith(" + wire + ")", x.fallsWith(wire), model.fallsWith(wire));
            Check.due("slackIn(" + wire + ")", x.slackIn(wire), model.slackIn(wire));
        }
        Check.due("round()", x.round(), model.round());
        Check.due("weakest(0)", x.weakest(0), model.weakest(0));
        Check.due("weakest(1)", x.weakest(1), model.weakest(1));
    }
}
