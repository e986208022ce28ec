/** Wires that carry a bridge and sing; every answer is a number, as the document of the project tells. */
public final class SingingWires {
    public static final int NO_SUCH = -1, BAD_VALUE = -2, BAD_TEXT = -3, TOO_MANY = -4, NOT_POSSIBLE = -5, NONE = -6;
    public static final int CREEP = 0, SPARE = 1;

    private static final int PLACES = 20;
    private static final int MOST_WIRES = 8;
    private static final int MOST_LOAD = 1000;
    private static final int MOST_TENSION = 50000;
    private static final int MOST_SETTING = 100;
    private static final int MOST_DAYS = 100;
    private static final int DAYS_LOOKED_AHEAD = 300;
    private static final int MOST_PITCH_ASKED = 100000;
    private static final int MOST_CHARACTERS = 60;
    private static final int CHARACTERS_AT_ONCE = 8;
    private static final int MOST_NUMBER = 99999;
    private static final int MOST_UNDONE = 6;
    private static final int SLOTS = 2;
    private static final int TENSION_SCALE = 1000000;
    private static final int TASK_OF_LOAD = 10;
    private static final int NEVER_TOO_TIGHT = 1000;
    private static final int NO_WIRE = -1;

    private final Bridge bridge;
    // What-ifs are played here, so that they change nothing and make nothing.
    private final Bridge trial;
    private final History history;
    private final Bridge[] slots;
    private final boolean[] saved;
    private final Pad pad;

    public SingingWires() {
        bridge = new Bridge();
        trial = new Bridge();
        history = new History();
        slots = new Bridge[SLOTS];
        for (int slot = 0; slot < SLOTS; slot++) {
            slots[slot] = new Bridge();
        }
        saved = new boolean[SLOTS];
        pad = new Pad();
    }

    // ---- setting up

    public int set(int setting, int value) {
        history.note(bridge);
        return history.keepUnlessError(bridge.changeSetting(setting, value));
    }

    public int wire(int place, int length, int mass, int strength, int tension) {
        history.note(bridge);
        return history.keepUnlessError(bridge.hang(place, length, mass, strength, tension));
    }

    public int load(int place, int load) {
        history.note(bridge);
        return history.keepUnlessError(bridge.changeLoad(place, load));
    }

    public int days(int days) {
        history.note(bridge);
        return history.keepUnlessError(bridge.letPass(days));
    }

    // ---- the listener

    public int walk(int place) {
        history.note(bridge);
        return history.keepUnlessError(bridge.goTo(place));
    }

    public int hear() {
        history.note(bridge);
        return history.keepUnlessError(bridge.listen());
    }

    public int tighten(int tension) {
        history.note(bridge);
        return history.keepUnlessError(bridge.changeTension(tension));
    }

    // ---- what there is

    public int ofWire(int wire, int what) {
        Wire asked = bridge.wireNumbered(wire);
        if (asked == null) {
            return NO_SUCH;
        }
        switch (what) {
            case 0: return asked.place;
            case 1: return asked.length;
            case 2: return asked.mass;
            case 3: return asked.strength;
            case 4: return asked.tension;
            case 5: return oneIf(asked.broken);
            case 6: return asked.pitchWith(asked.tension);
            case 7: return asked.task;
            case 8: return oneIf(asked.isSlack());
            case 9: return oneIf(asked.isTooTight(bridge.spare));
            case 10: return asked.brokeOn;
            default: return BAD_VALUE;
        }
    }

    public int known(int wire, int what) {
        trial.takeAsHeard(bridge);
        Wire asked = trial.wireNumbered(wire);
        if (asked == null) {
            return NO_SUCH;
        }
        switch (what) {
            case 0: return asked.heardOn;
            case 1: return asked.isKnown() ? asked.low : NONE;
            case 2: return asked.isKnown() ? asked.high : NONE;
            case 3: return oneIf(asked.heardBroken);
            case 4: return asked.task;
            case 5: return oneIf(asked.isSurelySlack());
            case 6: return oneIf(asked.maybeSlack());
            default: return BAD_VALUE;
        }
    }

    public int count(int what) {
        switch (what) {
            case 0: return bridge.day;
            case 1: return bridge.wireCount;
            case 2: return bridge.wireCount - bridge.wholeWires();
            case 3: return bridge.place;
            case 4: return bridge.walked;
            case 5: return bridge.allLoads();
            case 6: return bridge.wholeWires() == 0 ? bridge.allLoads() : 0;
            case 7: return bridge.slackWires();
            case 8: return bridge.tooTightWires();
            case 9: return pad.length;
            case 10: return history.kept;
            case 11: return bridge.creep;
            case 12: return bridge.spare;
            default: return BAD_VALUE;
        }
    }

    // ---- what if; nothing changes

    public int pitchAt(int wire, int tension) {
        Wire asked = bridge.wireNumbered(wire);
        if (asked == null) {
            return NO_SUCH;
        }
        if (!within(tension, 0, MOST_TENSION)) {
            return BAD_VALUE;
        }
        return asked.pitchWith(tension);
    }

    public int tensionFor(int wire, int pitch) {
        Wire asked = bridge.wireNumbered(wire);
        if (asked == null) {
            return NO_SUCH;
        }
        if (!within(pitch, 0, MOST_PITCH_ASKED)) {
            return BAD_VALUE;
        }
        long least = asked.leastTension(pitch);
        return least > MOST_TENSION ? NONE : (int) least;
    }

    public int fallsWith(int wire) {
        Wire asked = bridge.wireNumbered(wire);
        if (asked == null) {
            return NO_SUCH;
        }
        if (asked.broken) {
            return NOT_POSSIBLE;
        }
        return fallenWith(wire);
    }

    public int mostAt(int place) {
        if (!within(place, 0, PLACES - 1)) {
            return NO_SUCH;
        }
        trial.takeFrom(bridge);
        if (!trial.standsWith(place, 0)) {
            return NONE;
        }
        // A greater load leaves no wire with less, so halving steps find the greatest.
        int most = 0;
        for (int step = 512; step > 0; step /= 2) {
            if (most + step <= MOST_LOAD && trial.standsWith(place, most + step)) {
                most += step;
            }
        }
        return most;
    }

    public int slackIn(int wire) {
        Wire asked = bridge.wireNumbered(wire);
        if (asked == null) {
            return NO_SUCH;
        }
        if (asked.broken) {
            return NONE;
        }
        // Tasks hang on loads and whole wires alone, and each change of these is settled at once:
        // so days that pass change no task and break no wire, and this wire's tension tells all.
        int tension = asked.tension;
        for (int day = 0; day <= DAYS_LOOKED_AHEAD; day++) {
            if (tension < asked.task) {
                return day;
            }
            tension = crept(tension, bridge.creep);
        }
        return NONE;
    }

    public int round() {
        trial.takeAsHeard(bridge);
        return trial.walkToDoubtful();
    }

    public int weakest(int what) {
        if (what != 0 && what != 1) {
            return BAD_VALUE;
        }
        int weakest = NONE;
        int most = NONE;
        for (int number = 0; number < bridge.wireCount; number++) {
            Wire wire = bridge.wireNumbered(number);
            if (wire != null && !wire.broken) {
                int fallen = Integer.bitCount(fallenWith(number));
                if (fallen > most) {
                    most = fallen;
                    weakest = number;
                }
            }
        }
        return what == 0 ? weakest : most;
    }

    // ---- texts

    public int put(long characters) {
        return pad.append(characters);
    }

    public int wipe() {
        return pad.empty();
    }

    public int fault() {
        return pad.firstFault();
    }

    public int carryOut() {
        if (pad.firstFault() != NONE) {
            return BAD_TEXT;
        }
        history.note(bridge);
        int done = history.keepUnlessError(ordersCarriedOut());
        pad.empty();
        return done;
    }

    // ---- undo, saving

    public int undo() {
        return history.giveBack(bridge);
    }

    public int save(int slot) {
        if (!within(slot, 0, SLOTS - 1)) {
            return BAD_VALUE;
        }
        slots[slot].takeFrom(bridge);
        saved[slot] = true;
        return bridge.day;
    }

    public int restore(int slot) {
        if (!within(slot, 0, SLOTS - 1)) {
            return BAD_VALUE;
        }
        if (!saved[slot]) {
            return NOT_POSSIBLE;
        }
        history.note(bridge);
        bridge.takeFrom(slots[slot]);
        return history.keepUnlessError(bridge.day);
    }

    /** The set of wires that break if this whole one does. */
    private int fallenWith(int number) {
        trial.takeFrom(bridge);
        Wire first = trial.wireNumbered(number);
        if (first == null) {
            return 0;
        }
        first.snap(trial.day);
        trial.reckon();
        return (1 << number) | trial.settle();
    }

    private int ordersCarriedOut() {
        int done = 0;
        pad.startReading();
        // An order has one character at least, so there are fewer orders than characters.
        for (int order = 0; order < MOST_CHARACTERS && pad.readOrder(); order++) {
            if (isError(answerTo(pad.letter, pad.first, pad.second))) {
                return done;
            }
            done++;
        }
        return done;
    }

    private int answerTo(char letter, int first, int second) {
        switch (letter) {
            case 'g': return bridge.goTo(first);
            case 'h': return bridge.listen();
            case 't': return bridge.changeTension(first);
            case 'p': return bridge.changeLoad(first, second);
            case 'd': return bridge.letPass(first);
            default: return BAD_TEXT;
        }
    }

    private static boolean isError(int answer) {
        return answer < 0 && answer != NONE;
    }

    private static boolean within(int value, int least, int most) {
        return value >= least && value <= most;
    }

    private static int oneIf(boolean so) {
        return so ? 1 : 0;
    }

    /** What is left of a tension, or of a bound of one, when a day has passed. */
    private static int crept(int tension, int creep) {
        return tension - (tension * creep + 999) / 1000;
    }

    /** One wire, and what the listener knows of it. */
    private static final class Wire {
        int place;
        int length;
        int mass;
        int strength;
        int tension;
        int task;
        boolean broken;
        int brokeOn;
        int heardOn;
        int low;
        int high;
        boolean heardBroken;

        void makeNew(int newPlace, int newLength, int newMass, int newStrength, int newTension) {
            place = newPlace;
            length = newLength;
            mass = newMass;
            strength = newStrength;
            tension = newTension;
            task = 0;
            broken = false;
            brokeOn = NONE;
            heardOn = NONE;
            low = 0;
            high = 0;
            heardBroken = false;
        }

        void takeFrom(Wire other) {
            place = other.place;
            length = other.length;
            mass = other.mass;
            strength = other.strength;
            tension = other.tension;
            task = other.task;
            broken = other.broken;
            brokeOn = other.brokeOn;
            heardOn = other.heardOn;
            low = other.low;
            high = other.high;
            heardBroken = other.heardBroken;
        }

        long weight() {
            return (long) length * length * mass;
        }

        int pitchWith(int someTension) {
            long most = (long) someTension * TENSION_SCALE;
            long weight = weight();
            long pitch = 0;
            // The greatest pitch there can be (tension 50000, weight 100) is 22360, below twice the first step.
            for (long step = 16384; step > 0; step /= 2) {
                if ((pitch + step) * (pitch + step) * weight <= most) {
                    pitch += step;
                }
            }
            return (int) pitch;
        }

        /** The least tension with this pitch at least; it may be above all that a wire can have. */
        long leastTension(long pitch) {
            return (pitch * pitch * weight() + TENSION_SCALE - 1) / TENSION_SCALE;
        }

        void snap(int day) {
            broken = true;
            brokeOn = day;
            tension = 0;
        }

        void pull(int newTension, int day) {
            tension = newTension;
            low = newTension;
            high = newTension;
            heardOn = day;
        }

        /** Returns what is heard: the pitch, or NONE of a broken wire. */
        int sing(int day) {
            heardOn = day;
            if (broken) {
                heardBroken = true;
                low = 0;
                high = 0;
                return NONE;
            }
            int pitch = pitchWith(tension);
            low = (int) leastTension(pitch);
            high = (int) Math.min(leastTension(pitch + 1) - 1, MOST_TENSION);
            return pitch;
        }

        void loosen(int creep) {
            tension = crept(tension, creep);
            low = crept(low, creep);
            high = crept(high, creep);
        }

        boolean isSlack() {
            return !broken && tension < task;
        }

        boolean isTooTight(int spare) {
            return !broken && tension > NEVER_TOO_TIGHT && tension > task + task * spare / 100;
        }

        boolean isKnown() {
            return heardOn != NONE;
        }

        // These two are asked only of a bridge taken as heard, where the task is the listener's.

        boolean isSurelySlack() {
            return isKnown() && high < task;
        }

        boolean maybeSlack() {
            return !heardBroken && !isSurelySlack() && (!isKnown() || low < task);
        }
    }

    /** All that undo and the slots keep: deck, wires, listener, day and settings. */
    private static final class Bridge {
        final int[] loads;
        // The number of the wire at each place, broken or whole, or NO_WIRE.
        final int[] wireAt;
        final Wire[] wires;
        int wireCount;
        int creep;
        int spare;
        int day;
        int place;
        int walked;

        Bridge() {
            loads = new int[PLACES];
            wireAt = new int[PLACES];
            for (int at = 0; at < PLACES; at++) {
                wireAt[at] = NO_WIRE;
            }
            wires = new Wire[MOST_WIRES];
            for (int number = 0; number < MOST_WIRES; number++) {
                wires[number] = new Wire();
            }
            creep = 10;
            spare = 20;
        }

        void takeFrom(Bridge other) {
            System.arraycopy(other.loads, 0, loads, 0, PLACES);
            System.arraycopy(other.wireAt, 0, wireAt, 0, PLACES);
            wireCount = other.wireCount;
            for (int number = 0; number < wireCount; number++) {
                wires[number].takeFrom(other.wires[number]);
            }
            creep = other.creep;
            spare = other.spare;
            day = other.day;
            place = other.place;
            walked = other.walked;
        }

        /** Becomes the other bridge as its listener believes it: whole but for wires heard to be broken. */
        void takeAsHeard(Bridge other) {
            takeFrom(other);
            for (int number = 0; number < wireCount; number++) {
                wires[number].broken = wires[number].heardBroken;
            }
            reckon();
        }

        Wire wireNumbered(int number) {
            return number >= 0 && number < wireCount ? wires[number] : null;
        }

        int changeSetting(int setting, int value) {
            if (!within(value, 0, MOST_SETTING)) {
                return BAD_VALUE;
            }
            if (setting == CREEP) {
                int before = creep;
                creep = value;
                return before;
            }
            if (setting == SPARE) {
                int before = spare;
                spare = value;
                return before;
            }
            return BAD_VALUE;
        }

        int hang(int at, int length, int mass, int strength, int tension) {
            if (!within(at, 0, PLACES - 1) || !within(length, 10, 200) || !within(mass, 1, 20)
                    || !within(strength, 100, 50000) || !within(tension, 0, MOST_TENSION)) {
                return BAD_VALUE;
            }
            if (wireCount >= MOST_WIRES) {
                return TOO_MANY;
            }
            if (wireAt[at] != NO_WIRE || tension > strength) {
                return NOT_POSSIBLE;
            }
            int number = wireCount;
            wires[number].makeNew(at, length, mass, strength, tension);
            wireAt[at] = number;
            wireCount++;
            reckon();
            settle();
            return number;
        }

        int changeLoad(int at, int newLoad) {
            if (!within(at, 0, PLACES - 1)) {
                return NO_SUCH;
            }
            if (!within(newLoad, 0, MOST_LOAD)) {
                return BAD_VALUE;
            }
            int before = loads[at];
            loads[at] = newLoad;
            reckon();
            settle();
            return before;
        }

        int letPass(int howMany) {
            if (!within(howMany, 1, MOST_DAYS)) {
                return BAD_VALUE;
            }
            int fallen = 0;
            for (int passed = 0; passed < howMany; passed++) {
                for (int number = 0; number < wireCount; number++) {
                    wires[number].loosen(creep);
                }
                fallen += Integer.bitCount(settle());
                day++;
            }
            return fallen;
        }

        int goTo(int newPlace) {
            if (!within(newPlace, 0, PLACES - 1)) {
                return NO_SUCH;
            }
            int far = Math.abs(newPlace - place);
            place = newPlace;
            walked += far;
            return far;
        }

        Wire wireHere() {
            return within(place, 0, PLACES - 1) ? wireNumbered(wireAt[place]) : null;
        }

        int listen() {
            Wire here = wireHere();
            return here == null ? NOT_POSSIBLE : here.sing(day);
        }

        int changeTension(int tension) {
            if (!within(tension, 0, MOST_TENSION)) {
                return BAD_VALUE;
            }
            Wire here = wireHere();
            if (here == null || here.broken || tension > here.strength) {
                return NOT_POSSIBLE;
            }
            int before = here.tension;
            here.pull(tension, day);
            return before;
        }

        /** Breaks wires as long as one bursts, and returns the set of them; the tasks have to be reckoned. */
        int settle() {
            int fallen = 0;
            for (int turn = 0; turn < MOST_WIRES; turn++) {
                int worst = worstBursting();
                if (worst == NO_WIRE) {
                    return fallen;
                }
                wires[worst].snap(day);
                fallen |= 1 << worst;
                reckon();
            }
            return fallen;
        }

        int worstBursting() {
            int worst = NO_WIRE;
            // Only a task above the strength bursts a wire; a broken one's task is 0, and never above it.
            int mostAbove = 0;
            for (int number = 0; number < wireCount; number++) {
                int above = wires[number].task - wires[number].strength;
                if (above > mostAbove) {
                    worst = number;
                    mostAbove = above;
                }
            }
            return worst;
        }

        boolean standsWith(int at, int someLoad) {
            if (!within(at, 0, PLACES - 1)) {
                return false;
            }
            loads[at] = someLoad;
            reckon();
            return worstBursting() == NO_WIRE;
        }

        void reckon() {
            for (int number = 0; number < wireCount; number++) {
                wires[number].task = 0;
            }
            Wire left = null;
            Wire right = nextWhole(0);
            for (int at = 0; at < PLACES; at++) {
                if (right != null && right.place < at) {
                    right = nextWhole(at);
                }
                if (right != null && right.place == at) {
                    left = right;
                }
                share(at, left, right);
            }
        }

        /** The first whole wire at this place or to the right of it, or null. */
        Wire nextWhole(int from) {
            for (int at = 0; at < PLACES; at++) {
                int number = wireAt[at];
                if (at >= from && number >= 0 && number < wireCount && !wires[number].broken) {
                    return wires[number];
                }
            }
            return null;
        }

        void share(int at, Wire left, Wire right) {
            int task = TASK_OF_LOAD * loads[at];
            if (left == null) {
                if (right != null) {
                    right.task += task;
                }
                return;
            }
            if (right == null) {
                left.task += task;
                return;
            }
            // There is no span when one wire, at the place itself, is both.
            int span = right.place - left.place;
            int toRight = span <= 0 ? 0 : loads[at] * (at - left.place) / span;
            right.task += TASK_OF_LOAD * toRight;
            left.task += task - TASK_OF_LOAD * toRight;
        }

        /** How far it is at least to all wires that are, or may be, slack; only of a bridge taken as heard. */
        int walkToDoubtful() {
            int first = PLACES;
            int last = -1;
            for (int number = 0; number < wireCount; number++) {
                Wire wire = wires[number];
                if (!wire.heardBroken && (wire.isSurelySlack() || wire.maybeSlack())) {
                    first = Math.min(first, wire.place);
                    last = Math.max(last, wire.place);
                }
            }
            if (last < first) {
                return 0;
            }
            // On a row, the shortest walk goes to one end first and then to the other.
            return last - first + Math.min(Math.abs(place - first), Math.abs(place - last));
        }

        int allLoads() {
            int all = 0;
            for (int at = 0; at < PLACES; at++) {
                all += loads[at];
            }
            return all;
        }

        int wholeWires() {
            int whole = 0;
            for (int number = 0; number < wireCount; number++) {
                whole += oneIf(!wires[number].broken);
            }
            return whole;
        }

        int slackWires() {
            int slack = 0;
            for (int number = 0; number < wireCount; number++) {
                slack += oneIf(wires[number].isSlack());
            }
            return slack;
        }

        int tooTightWires() {
            int tight = 0;
            for (int number = 0; number < wireCount; number++) {
                tight += oneIf(wires[number].isTooTight(spare));
            }
            return tight;
        }
    }

    /** The states before the latest changes, the oldest one first. */
    private static final class History {
        // One row more than is kept: behind the kept ones stands the state before the call that runs now.
        final Bridge[] states;
        int kept;

        History() {
            states = new Bridge[MOST_UNDONE + 1];
            for (int state = 0; state <= MOST_UNDONE; state++) {
                states[state] = new Bridge();
            }
        }

        void note(Bridge bridge) {
            if (within(kept, 0, MOST_UNDONE)) {
                states[kept].takeFrom(bridge);
            }
        }

        /** Keeps the noted state if the call that was answered is a change, and hands its answer on. */
        int keepUnlessError(int answer) {
            if (isError(answer)) {
                return answer;
            }
            if (kept < MOST_UNDONE) {
                kept++;
            } else {
                dropOldest();
            }
            return answer;
        }

        void dropOldest() {
            Bridge oldest = states[0];
            for (int state = 0; state < MOST_UNDONE; state++) {
                states[state] = states[state + 1];
            }
            states[MOST_UNDONE] = oldest;
        }

        int giveBack(Bridge bridge) {
            if (kept <= 0) {
                return NOT_POSSIBLE;
            }
            kept--;
            bridge.takeFrom(states[kept]);
            return kept;
        }
    }

    /** The text of orders, and its reader. */
    private static final class Pad {
        // What may come next when a text is read.
        private static final int ORDER_DUE = 0, NUMBER_DUE = 1, IN_NUMBER = 2, ORDER_ENDED = 3;

        final char[] signs;
        int length;
        // Where the reader stands, and the order that it read last.
        int at;
        char letter;
        int first;
        int second;
        // Where the checker stands in the grammar.
        int due;
        boolean equalsDue;
        int number;

        Pad() {
            signs = new char[MOST_CHARACTERS];
        }

        int append(long characters) {
            int more = charactersIn(characters);
            if (more <= 0) {
                return BAD_VALUE;
            }
            if (length + more > MOST_CHARACTERS) {
                return TOO_MANY;
            }
            for (int back = more - 1; back >= 0; back--) {
                signs[length] = (char) codeAt(characters, back);
                length++;
            }
            return length;
        }

        /** How many characters the number holds, or 0 if it is not a row of them. */
        static int charactersIn(long characters) {
            for (int back = 0; back < CHARACTERS_AT_ONCE; back++) {
                int code = codeAt(characters, back);
                if (code == 0) {
                    return characters >>> (8 * back) == 0 ? back : 0;
                }
                if (!within(code, 33, 126)) {
                    return 0;
                }
            }
            return CHARACTERS_AT_ONCE;
        }

        static int codeAt(long characters, int back) {
            return (int) (characters >>> (8 * back)) & 255;
        }

        int empty() {
            int before = length;
            length = 0;
            return before;
        }

        int firstFault() {
            due = ORDER_DUE;
            equalsDue = false;
            for (int index = 0; index < length; index++) {
                if (!canStand(signs[index])) {
                    return index;
                }
            }
            boolean complete = due == ORDER_ENDED || (due == IN_NUMBER && !equalsDue);
            return complete ? NONE : length;
        }

        /** Whether the sign can come next; then the checker goes past it. */
        boolean canStand(char sign) {
            switch (due) {
                case ORDER_DUE: return startsOrder(sign);
                case NUMBER_DUE: return startsNumber(sign);
                case IN_NUMBER: return isDigit(sign) ? growsNumber(sign) : endsNumber(sign);
                default: return endsOrder(sign);
            }
        }

        boolean startsOrder(char sign) {
            due = sign == 'h' ? ORDER_ENDED : NUMBER_DUE;
            equalsDue = sign == 'p';
            return sign == 'g' || sign == 'h' || sign == 't' || sign == 'p' || sign == 'd';
        }

        boolean startsNumber(char sign) {
            number = sign - '0';
            due = IN_NUMBER;
            return isDigit(sign);
        }

        boolean growsNumber(char sign) {
            if (number == 0) {
                return false;
            }
            number = 10 * number + (sign - '0');
            return number <= MOST_NUMBER;
        }

        boolean endsNumber(char sign) {
            if (equalsDue) {
                equalsDue = false;
                due = NUMBER_DUE;
                return sign == '=';
            }
            return endsOrder(sign);
        }

        boolean endsOrder(char sign) {
            due = ORDER_DUE;
            return sign == ';';
        }

        static boolean isDigit(char sign) {
            return sign >= '0' && sign <= '9';
        }

        void startReading() {
            at = 0;
        }

        /** Reads the next order of a text without fault; false if there is none. */
        boolean readOrder() {
            if (at >= length) {
                return false;
            }
            letter = signs[at];
            at++;
            first = readNumber();
            second = 0;
            if (at < length && signs[at] == '=') {
                at++;
                second = readNumber();
            }
            // Past the semicolon, or past the end.
            at++;
            return true;
        }

        int readNumber() {
            int value = 0;
            for (; at < length && isDigit(signs[at]); at++) {
                value = 10 * value + (signs[at] - '0');
            }
            return value;
        }
    }
}
