import java.util.ArrayDeque;
import java.util.ArrayList;
import java.util.List;
import java.util.regex.Matcher;
import java.util.regex.Pattern;

/** The document once more, in its slowest and plainest form, to compare the program with. */
final class Model {
    static final int NO_SUCH = -1, BAD_VALUE = -2, BAD_TEXT = -3, TOO_MANY = -4, NOT_POSSIBLE = -5, NONE = -6;
    private static final String NUMBER = "(0|[1-9][0-9]{0,4})";
    private static final String ORDER = "(g" + NUMBER + "|h|t" + NUMBER + "|p" + NUMBER + "=" + NUMBER
            + "|d" + NUMBER + ")";
    private static final Pattern TEXT = Pattern.compile(ORDER + "(;" + ORDER + ")*");

    static final class Wire {
        int place, length, mass, strength, tension;
        Integer brokeOn;
        Integer heardOn;
        int low, high;
        boolean heardBroken;

        Wire copy() {
            Wire w = new Wire();
            w.place = place;
            w.length = length;
            w.mass = mass;
            w.strength = strength;
            w.tension = tension;
            w.brokeOn = brokeOn;
            w.heardOn = heardOn;
            w.low = low;
            w.high = high;
            w.heardBroken = heardBroken;
            return w;
        }

        boolean fits(long pitch, long tension) {
            return pitch * pitch * length * length * mass <= tension * 1000000L;
        }

        int pitch(int tension) {
            int p = 0;
            while (fits(p + 1, tension)) {
                p++;
            }
            return p;
        }
    }

    static final class State {
        int[] loads = new int[20];
        List<Wire> wires = new ArrayList<>();
        int creep = 10, spare = 20, day, place, walked;

        State copy() {
            State s = new State();
            s.loads = loads.clone();
            for (Wire w : wires) {
                s.wires.add(w.copy());
            }
            s.creep = creep;
            s.spare = spare;
            s.day = day;
            s.place = place;
            s.walked = walked;
            return s;
        }

        /** Tasks if the wires of the set are whole. */
        int[] tasks(boolean[] whole) {
            int[] carried = new int[wires.size()];
            for (int place = 0; place < 20; place++) {
                int here = -1, left = -1, right = -1;
                for (int i = 0; i < wires.size(); i++) {
                    int at = wires.get(i).place;
                    if (!whole[i]) {
                        continue;
                    }
                    if (at == place) {
                        here = i;
                    }
                    if (at < place && (left < 0 || at > wires.get(left).place)) {
                        left = i;
                    }
                    if (at > place && (right < 0 || at < wires.get(right).place)) {
                        right = i;
                    }
                }
                int load = loads[place];
                if (here >= 0) {
                    carried[here] += load;
                } else if (left >= 0 && right >= 0) {
                    int d = place - wires.get(left).place;
                    int e = wires.get(right).place - place;
                    carried[right] += load * d / (d + e);
                    carried[left] += load - load * d / (d + e);
                } else if (left >= 0) {
                    carried[left] += load;
                } else if (right >= 0) {
                    carried[right] += load;
                }
            }
            for (int i = 0; i < carried.length; i++) {
                carried[i] *= 10;
            }
            return carried;
        }

        int[] tasks() {
            boolean[] whole = new boolean[wires.size()];
            for (int i = 0; i < whole.length; i++) {
                whole[i] = wires.get(i).brokeOn == null;
            }
            return tasks(whole);
        }

        int[] heardTasks() {
            boolean[] whole = new boolean[wires.size()];
            for (int i = 0; i < whole.length; i++) {
                whole[i] = !wires.get(i).heardBroken;
            }
            return tasks(whole);
        }

        void breakWire(int wire) {
            wires.get(wire).brokeOn = day;
            wires.get(wire).tension = 0;
        }

        void settle() {
            while (true) {
                int[] tasks = tasks();
                int worst = -1;
                for (int i = 0; i < tasks.length; i++) {
                    int above = tasks[i] - wires.get(i).strength;
                    if (above > 0 && (worst < 0 || above > tasks[worst] - wires.get(worst).strength)) {
                        worst = i;
                    }
                }
                if (worst < 0) {
                    return;
                }
                breakWire(worst);
            }
        }

        int brokenSet() {
            int set = 0;
            for (int i = 0; i < wires.size(); i++) {
                if (wires.get(i).brokeOn != null) {
                    set |= 1 << i;
                }
            }
            return set;
        }

        int less(int tension) {
            return tension - (int) Math.ceil(tension * (double) creep / 1000.0);
        }

        void passDay() {
            for (Wire w : wires) {
                w.tension = less(w.tension);
                w.low = less(w.low);
                w.high = less(w.high);
            }
            settle();
            day++;
        }

        boolean surely(int wire) {
            Wire w = wires.get(wire);
            return w.heardOn != null && w.high < heardTasks()[wire];
        }

        boolean maybe(int wire) {
            Wire w = wires.get(wire);
            return !surely(wire) && !w.heardBroken && (w.heardOn == null || w.low < heardTasks()[wire]);
        }

        boolean tight(int wire) {
            Wire w = wires.get(wire);
            int task = tasks()[wire];
            return w.brokeOn == null && w.tension > task + task * spare / 100 && w.tension > 1000;
        }

        boolean slack(int wire) {
            Wire w = wires.get(wire);
            return w.brokeOn == null && w.tension < tasks()[wire];
        }

        Wire here() {
            for (Wire w : wires) {
                if (w.place == place) {
                    return w;
                }
            }
            return null;
        }
    }

    State now = new State();
    String pad = "";
    ArrayDeque<State> history = new ArrayDeque<>();
    State[] slots = new State[2];

    private void record() {
        history.addLast(now.copy());
        if (history.size() > 6) {
            history.removeFirst();
        }
    }

    private static boolean in(long value, long low, long high) {
        return low <= value && value <= high;
    }

    int set(int setting, int value) {
        if (setting != 0 && setting != 1 || !in(value, 0, 100)) {
            return BAD_VALUE;
        }
        record();
        int before = setting == 0 ? now.creep : now.spare;
        if (setting == 0) {
            now.creep = value;
        } else {
            now.spare = value;
        }
        return before;
    }

    int wire(int place, int length, int mass, int strength, int tension) {
        if (!in(place, 0, 19) || !in(length, 10, 200) || !in(mass, 1, 20) || !in(strength, 100, 50000)
                || !in(tension, 0, 50000)) {
            return BAD_VALUE;
        }
        if (now.wires.size() == 8) {
            return TOO_MANY;
        }
        for (Wire w : now.wires) {
            if (w.place == place) {
                return NOT_POSSIBLE;
            }
        }
        if (tension > strength) {
            return NOT_POSSIBLE;
        }
        record();
        Wire w = new Wire();
        w.place = place;
        w.length = length;
        w.mass = mass;
        w.strength = strength;
        w.tension = tension;
        now.wires.add(w);
        now.settle();
        return now.wires.size() - 1;
    }

    int load(int place, int load, boolean recorded) {
        if (!in(place, 0, 19)) {
            return NO_SUCH;
        }
        if (!in(load, 0, 1000)) {
            return BAD_VALUE;
        }
        if (recorded) {
            record();
        }
        int before = now.loads[place];
        now.loads[place] = load;
        now.settle();
        return before;
    }

    int days(int days, boolean recorded) {
        if (!in(days, 1, 100)) {
            return BAD_VALUE;
        }
        if (recorded) {
            record();
        }
        int before = Integer.bitCount(now.brokenSet());
        for (int i = 0; i < days; i++) {
            now.passDay();
        }
        return Integer.bitCount(now.brokenSet()) - before;
    }

    int walk(int place, boolean recorded) {
        if (!in(place, 0, 19)) {
            return NO_SUCH;
        }
        if (recorded) {
            record();
        }
        int far = place > now.place ? place - now.place : now.place - place;
        now.place = place;
        now.walked += far;
        return far;
    }

    int hear(boolean recorded) {
        if (now.here() == null) {
            return NOT_POSSIBLE;
        }
        if (recorded) {
            record();
        }
        Wire w = now.here();
        w.heardOn = now.day;
        if (w.brokeOn != null) {
            w.heardBroken = true;
            w.low = 0;
            w.high = 0;
            return NONE;
        }
        int pitch = w.pitch(w.tension);
        w.low = w.tension;
        while (w.low > 0 && w.fits(pitch, w.low - 1)) {
            w.low--;
        }
        w.high = w.tension;
        while (w.high < 50000 && !w.fits(pitch + 1, w.high + 1)) {
            w.high++;
        }
        return pitch;
    }

    int tighten(int tension, boolean recorded) {
        if (!in(tension, 0, 50000)) {
            return BAD_VALUE;
        }
        Wire w = now.here();
        if (w == null || w.brokeOn != null || tension > w.strength) {
            return NOT_POSSIBLE;
        }
        if (recorded) {
            record();
        }
        w = now.here();
        int before = w.tension;
        w.tension = tension;
        w.low = tension;
        w.high = tension;
        w.heardOn = now.day;
        return before;
    }

    private boolean noWire(int wire) {
        return !in(wire, 0, now.wires.size() - 1);
    }

    int ofWire(int wire, int what) {
        if (noWire(wire)) {
            return NO_SUCH;
        }
        if (!in(what, 0, 10)) {
            return BAD_VALUE;
        }
        Wire w = now.wires.get(wire);
        int[] all = {w.place, w.length, w.mass, w.strength, w.tension, w.brokeOn != null ? 1 : 0,
            w.pitch(w.tension), now.tasks()[wire], now.slack(wire) ? 1 : 0, now.tight(wire) ? 1 : 0,
            w.brokeOn == null ? NONE : w.brokeOn};
        return all[what];
    }

    int known(int wire, int what) {
        if (noWire(wire)) {
            return NO_SUCH;
        }
        if (!in(what, 0, 6)) {
            return BAD_VALUE;
        }
        Wire w = now.wires.get(wire);
        boolean nothing = w.heardOn == null;
        int[] all = {nothing ? NONE : w.heardOn, nothing ? NONE : w.low, nothing ? NONE : w.high,
            w.heardBroken ? 1 : 0, now.heardTasks()[wire], now.surely(wire) ? 1 : 0, now.maybe(wire) ? 1 : 0};
        return all[what];
    }

    int count(int what) {
        if (!in(what, 0, 12)) {
            return BAD_VALUE;
        }
        int loads = 0, slack = 0, tight = 0;
        for (int load : now.loads) {
            loads += load;
        }
        int carried = 0;
        for (int i = 0; i < now.wires.size(); i++) {
            carried += now.tasks()[i] / 10;
            slack += now.slack(i) ? 1 : 0;
            tight += now.tight(i) ? 1 : 0;
        }
        int[] all = {now.day, now.wires.size(), Integer.bitCount(now.brokenSet()), now.place, now.walked, loads,
            loads - carried, slack, tight, pad.length(), history.size(), now.creep, now.spare};
        return all[what];
    }

    int pitchAt(int wire, int tension) {
        if (noWire(wire)) {
            return NO_SUCH;
        }
        return in(tension, 0, 50000) ? now.wires.get(wire).pitch(tension) : BAD_VALUE;
    }

    int tensionFor(int wire, int pitch) {
        if (noWire(wire)) {
            return NO_SUCH;
        }
        if (!in(pitch, 0, 100000)) {
            return BAD_VALUE;
        }
        for (int tension = 0; tension <= 50000; tension++) {
            if (now.wires.get(wire).fits(pitch, tension)) {
                return tension;
            }
        }
        return NONE;
    }

    int fallsWith(int wire) {
        if (noWire(wire)) {
            return NO_SUCH;
        }
        if (now.wires.get(wire).brokeOn != null) {
            return NOT_POSSIBLE;
        }
        State then = now.copy();
        then.breakWire(wire);
        then.settle();
        return then.brokenSet() & ~now.brokenSet();
    }

    int mostAt(int place) {
        if (!in(place, 0, 19)) {
            return NO_SUCH;
        }
        for (int load = 1000; load >= 0; load--) {
            State then = now.copy();
            then.loads[place] = load;
            then.settle();
            if (then.brokenSet() == now.brokenSet()) {
                return load;
            }
        }
        return NONE;
    }

    int slackIn(int wire) {
        if (noWire(wire)) {
            return NO_SUCH;
        }
        State then = now.copy();
        for (int days = 0; days <= 300; days++) {
            if (then.wires.get(wire).brokeOn != null) {
                return NONE;
            }
            if (then.slack(wire)) {
                return days;
            }
            then.passDay();
        }
        return NONE;
    }

    int round() {
        int wanted = 0;
        for (int i = 0; i < now.wires.size(); i++) {
            if ((now.maybe(i) || now.surely(i)) && !now.wires.get(i).heardBroken) {
                wanted |= 1 << now.wires.get(i).place;
            }
        }
        // Step by step over all (place, stretch that was walked).
        ArrayDeque<int[]> open = new ArrayDeque<>();
        boolean[] seen = new boolean[20 * 20 * 20];
        open.add(new int[] {now.place, now.place, now.place, 0});
        while (true) {
            int[] at = open.removeFirst();
            int stretch = (1 << at[2] + 1) - (1 << at[1]);
            if ((wanted & ~stretch) == 0) {
                return at[3];
            }
            for (int step = -1; step <= 1; step += 2) {
                int next = at[0] + step;
                int from = Math.min(next, at[1]), to = Math.max(next, at[2]);
                if (in(next, 0, 19) && !seen[next * 400 + from * 20 + to]) {
                    seen[next * 400 + from * 20 + to] = true;
                    open.add(new int[] {next, from, to, at[3] + 1});
                }
            }
        }
    }

    int weakest(int what) {
        if (!in(what, 0, 1)) {
            return BAD_VALUE;
        }
        int best = NONE, most = 0;
        for (int i = 0; i < now.wires.size(); i++) {
            int fallen = now.wires.get(i).brokeOn != null ? 0 : Integer.bitCount(fallsWith(i));
            if (fallen > most) {
                best = i;
                most = fallen;
            }
        }
        return best == NONE || what == 0 ? best : most;
    }

    int put(long characters) {
        String all = "";
        for (int shift = 56; shift >= 0; shift -= 8) {
            all += (char) (characters >> shift & 255);
        }
        while (all.startsWith("\0")) {
            all = all.substring(1);
        }
        if (all.isEmpty()) {
            return BAD_VALUE;
        }
        for (char c : all.toCharArray()) {
            if (c < 33 || c > 126) {
                return BAD_VALUE;
            }
        }
        if (pad.length() + all.length() > 60) {
            return TOO_MANY;
        }
        pad += all;
        return pad.length();
    }

    int wipe() {
        int before = pad.length();
        pad = "";
        return before;
    }

    int fault() {
        for (int to = 1; to <= pad.length(); to++) {
            Matcher m = TEXT.matcher(pad.substring(0, to));
            if (!m.matches() && !m.hitEnd()) {
                return to - 1;
            }
        }
        return TEXT.matcher(pad).matches() ? NONE : pad.length();
    }

    int carryOut() {
        if (fault() != NONE) {
            return BAD_TEXT;
        }
        record();
        int done = 0;
        for (String order : pad.split(";")) {
            int answer = order(order);
            if (answer < 0 && answer != NONE) {
                break;
            }
            done++;
        }
        pad = "";
        return done;
    }

    private int order(String order) {
        String[] numbers = order.substring(1).split("=");
        switch (order.charAt(0)) {
            case 'g': return walk(Integer.parseInt(numbers[0]), false);
            case 'h': return hear(false);
            case 't': return tighten(Integer.parseInt(numbers[0]), false);
            case 'p': return load(Integer.parseInt(numbers[0]), Integer.parseInt(numbers[1]), false);
            default: return days(Integer.parseInt(numbers[0]), false);
        }
    }

    int undo() {
        if (history.isEmpty()) {
            return NOT_POSSIBLE;
        }
        now = history.removeLast();
        return history.size();
    }

    int save(int slot) {
        if (!in(slot, 0, 1)) {
            return BAD_VALUE;
        }
        slots[slot] = now.copy();
        return now.day;
    }

    int restore(int slot) {
        if (!in(slot, 0, 1)) {
            return BAD_VALUE;
        }
        if (slots[slot] == null) {
            return NOT_POSSIBLE;
        }
        record();
        now = slots[slot].copy();
        return now.day;
    }
}
