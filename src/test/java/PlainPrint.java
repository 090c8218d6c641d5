import java.util.ArrayDeque;
import java.util.ArrayList;
import java.util.BitSet;
import java.util.Collections;
import java.util.HashMap;
import java.util.HashSet;
import java.util.List;
import java.util.Map;
import java.util.Set;

/**
 * The document once more, told as slowly and plainly as it can be: times are tried one by one, and all orders
 * are listed. ModelTest compares ZonePrint with it.
 */
final class PlainPrint {
    static final class Zone {
        int density;
        int wanted;
        int burn;
        int hold;
        Set<Integer> neighbours = new HashSet<>();

        Zone copy() {
            Zone copy = new Zone();
            copy.density = density;
            copy.wanted = wanted;
            copy.burn = burn;
            copy.hold = hold;
            copy.neighbours = new HashSet<>(neighbours);
            return copy;
        }
    }

    static final class State {
        List<Zone> zones = new ArrayList<>();
        int time = 100;
        int grade = 2;
        int speed = 100;
        int spill = 10;

        State copy() {
            State copy = new State();
            for (Zone zone : zones) {
                copy.zones.add(zone.copy());
            }
            copy.time = time;
            copy.grade = grade;
            copy.speed = speed;
            copy.spill = spill;
            return copy;
        }
    }

    static final Set<String> ORDERS = new HashSet<>();
    static final Set<String> BEGINNINGS = new HashSet<>();
    private static final Map<Long, BitSet> NEEDS = new HashMap<>();

    static {
        for (int density = 0; density <= 24; density++) {
            for (int tone = 0; tone <= 10; tone++) {
                addOrder("z" + density + "=" + tone);
            }
        }
        for (int one = 0; one <= 7; one++) {
            for (int other = one + 1; other <= 7; other++) {
                addOrder("n" + one + other);
            }
        }
        for (int time = 1; time <= 2000; time++) {
            addOrder("t" + time);
        }
        for (int zone = 0; zone <= 7; zone++) {
            for (int time = 0; time <= 999; time++) {
                addOrder("b" + zone + ":" + time);
                addOrder("h" + zone + ":" + time);
            }
        }
    }

    private static void addOrder(String order) {
        ORDERS.add(order);
        for (int length = 0; length <= order.length(); length++) {
            BEGINNINGS.add(order.substring(0, length));
        }
    }

    State now = new State();
    String buffer = "";
    private final ArrayDeque<State> saved = new ArrayDeque<>();

    private void save() {
        saved.addLast(now.copy());
        if (saved.size() > 6) {
            saved.removeFirst();
        }
    }

    private static void argument(boolean right) {
        if (!right) {
            throw new IllegalArgumentException();
        }
    }

    private void exists(int zone) {
        if (zone < 0 || zone >= now.zones.size()) {
            throw new IndexOutOfBoundsException();
        }
    }

    int zone(int density, int wanted) {
        argument(density >= 0 && density <= 24 && wanted >= 0 && wanted <= 10);
        if (now.zones.size() == 8) {
            throw new IllegalStateException();
        }
        save();
        return addZone(density, wanted);
    }

    private int addZone(int density, int wanted) {
        Zone zone = new Zone();
        zone.density = density;
        zone.wanted = wanted;
        now.zones.add(zone);
        return now.zones.size() - 1;
    }

    int want(int zone, int wanted) {
        exists(zone);
        argument(wanted >= 0 && wanted <= 10);
        save();
        int previous = now.zones.get(zone).wanted;
        now.zones.get(zone).wanted = wanted;
        return previous;
    }

    int link(int one, int other) {
        exists(one);
        exists(other);
        argument(one != other);
        save();
        if (now.zones.get(one).neighbours.remove(other)) {
            now.zones.get(other).neighbours.remove(one);
            return 0;
        }
        join(one, other);
        return 1;
    }

    private void join(int one, int other) {
        now.zones.get(one).neighbours.add(other);
        now.zones.get(other).neighbours.add(one);
    }

    int expose(int time) {
        argument(time >= 1 && time <= 2000);
        save();
        now.time = time;
        return right(now);
    }

    int burn(int zone, int time) {
        exists(zone);
        argument(time >= 0 && time <= 999);
        save();
        now.zones.get(zone).burn = time;
        return tone(now, zone);
    }

    int hold(int zone, int time) {
        exists(zone);
        argument(time >= 0 && time <= 999);
        save();
        now.zones.get(zone).hold = time;
        return tone(now, zone);
    }

    int paper(int grade, int speed) {
        argument(grade >= 0 && grade <= 5 && speed >= 10 && speed <= 999);
        save();
        now.grade = grade;
        now.speed = speed;
        return right(now);
    }

    int plan() {
        save();
        plan(now);
        return right(now);
    }

    int set(int spill) {
        argument(spill >= 0 && spill <= 50);
        save();
        int previous = now.spill;
        now.spill = spill;
        return previous;
    }

    int append(int code) {
        argument(code >= 33 && code <= 126);
        if (buffer.length() == 60) {
            throw new IllegalStateException();
        }
        buffer += (char) code;
        return buffer.length();
    }

    int clearBuffer() {
        int length = buffer.length();
        buffer = "";
        return length;
    }

    int firstError() {
        for (int place = 0; place < buffer.length(); place++) {
            if (!beginsPrint(buffer.substring(0, place + 1))) {
                return place;
            }
        }
        return buffer.length();
    }

    static boolean beginsPrint(String text) {
        String[] parts = text.split(";", -1);
        for (int part = 0; part < parts.length - 1; part++) {
            if (!ORDERS.contains(parts[part])) {
                return false;
            }
        }
        return BEGINNINGS.contains(parts[parts.length - 1]);
    }

    int run() {
        String[] orders = buffer.split(";", -1);
        for (String order : orders) {
            argument(ORDERS.contains(order));
        }
        save();
        int done = 0;
        while (done < orders.length && doOrder(orders[done])) {
            done++;
        }
        buffer = "";
        return done;
    }

    private boolean doOrder(String order) {
        String rest = order.substring(1);
        String[] numbers = rest.split("[=:]");
        switch (order.charAt(0)) {
            case 'z':
                if (now.zones.size() == 8) {
                    return false;
                }
                addZone(Integer.parseInt(numbers[0]), Integer.parseInt(numbers[1]));
                return true;
            case 'n':
                if (rest.charAt(1) - '0' >= now.zones.size()) {
                    return false;
                }
                join(rest.charAt(0) - '0', rest.charAt(1) - '0');
                return true;
            case 't':
                now.time = Integer.parseInt(rest);
                return true;
            default:
                int zone = Integer.parseInt(numbers[0]);
                if (zone >= now.zones.size()) {
                    return false;
                }
                if (order.charAt(0) == 'b') {
                    now.zones.get(zone).burn = Integer.parseInt(numbers[1]);
                } else {
                    now.zones.get(zone).hold = Integer.parseInt(numbers[1]);
                }
                return true;
        }
    }

    int undo() {
        if (saved.isEmpty()) {
            throw new IllegalStateException();
        }
        now = saved.removeLast();
        return saved.size();
    }

    int zoneOf(int zone, int what) {
        exists(zone);
        argument(what >= 0 && what <= 10);
        Zone one = now.zones.get(zone);
        BitSet needs = needs(now, zone);
        switch (what) {
            case 0: return one.density;
            case 1: return one.wanted;
            case 2: return one.burn;
            case 3: return one.hold;
            case 4: return time(now, zone);
            case 5: return light(one.density, time(now, zone));
            case 6: return tone(now, zone);
            case 7:
                int mask = 0;
                for (int neighbour : one.neighbours) {
                    mask += 1 << neighbour;
                }
                return mask;
            case 8: return needs.nextSetBit(0);
            case 9: return needs.length() - 1;
            default: return spill(now, zone);
        }
    }

    int mark(int tone) {
        argument(tone >= 1 && tone <= 10);
        return marks(now.grade, now.speed)[tone - 1];
    }

    int strip(int zone, int first, int times, int what) {
        exists(zone);
        argument(first >= 1 && first <= 999 && times >= 1 && times <= 9 && what >= 0 && what <= 3);
        Zone one = now.zones.get(zone);
        int time = -1;
        int number = -1;
        int hits = 0;
        int tone = 0;
        for (int k = 0; k < times; k++) {
            int tried = first;
            for (int stop = 0; stop < k / 3; stop++) {
                tried *= 2;
            }
            if (k % 3 == 1) {
                tried = tried * 126 / 100;
            } else if (k % 3 == 2) {
                tried = tried * 159 / 100;
            }
            tone = tone(now, one.density, tried);
            if (tone >= one.wanted && number < 0) {
                time = tried;
                number = k;
            }
            hits += tone == one.wanted ? 1 : 0;
        }
        return new int[] {time, number, hits, tone}[what];
    }

    int count(int what) {
        argument(what >= 0 && what <= 11);
        int right = 0;
        int light = 0;
        int dark = 0;
        int burns = 0;
        int holds = 0;
        int without = 0;
        int ends = 0;
        for (int zone = 0; zone < now.zones.size(); zone++) {
            Zone one = now.zones.get(zone);
            int tone = tone(now, zone);
            right += tone == one.wanted ? 1 : 0;
            light += tone < one.wanted ? 1 : 0;
            dark += tone > one.wanted ? 1 : 0;
            burns += one.burn;
            holds += one.hold;
            without += needs(now, zone).isEmpty() ? 1 : 0;
            ends += one.neighbours.size();
        }
        return new int[] {
            now.zones.size(), now.time, now.grade, now.speed, right, light, dark, burns, holds, without, ends / 2,
            saved.size(),
        }[what];
    }

    int ifExposed(int time, int what) {
        argument(time >= 1 && time <= 2000 && what >= 0 && what <= 1);
        State other = now.copy();
        other.time = time;
        return what == 0 ? right(other) : missed(other);
    }

    int bestTime() {
        int best = 10;
        for (int time = 20; time <= 2000; time += 10) {
            if (ifExposed(time, 1) < ifExposed(best, 1)) {
                best = time;
            }
        }
        return best;
    }

    int bestGrade() {
        int best = 0;
        State bestState = planned(0);
        for (int grade = 1; grade <= 5; grade++) {
            State state = planned(grade);
            boolean more = right(state) > right(bestState);
            boolean shorter = right(state) == right(bestState) && changed(state) < changed(bestState);
            if (more || shorter) {
                best = grade;
                bestState = state;
            }
        }
        return best;
    }

    private State planned(int grade) {
        State state = now.copy();
        state.grade = grade;
        plan(state);
        return state;
    }

    private static int changed(State state) {
        int sum = 0;
        for (Zone zone : state.zones) {
            sum += zone.burn + zone.hold;
        }
        return sum;
    }

    int ifBurned(int zone, int time, int what) {
        exists(zone);
        argument(time >= 0 && time <= 999 && what >= 0 && what <= 1);
        State other = now.copy();
        other.zones.get(zone).burn = time;
        return what == 0 ? tone(other, zone) : right(other);
    }

    int common(int what) {
        argument(what >= 0 && what <= 1);
        BitSet shared = new BitSet();
        boolean any = false;
        for (int zone = 0; zone < now.zones.size(); zone++) {
            BitSet needs = needs(now, zone);
            if (needs.isEmpty()) {
                continue;
            }
            if (any) {
                shared.and(needs);
            } else {
                shared.or(needs);
            }
            any = true;
        }
        return what == 0 ? shared.nextSetBit(0) : shared.length() - 1;
    }

    double rightShare() {
        return now.zones.isEmpty() ? 1.0 : right(now) / (double) now.zones.size();
    }

    long digest() {
        List<Long> values = new ArrayList<>();
        for (int what = 0; what <= 11; what++) {
            values.add((long) count(what));
        }
        values.add((long) now.spill);
        for (int tone = 1; tone <= 10; tone++) {
            values.add((long) mark(tone));
        }
        for (int zone = 0; zone < now.zones.size(); zone++) {
            for (int what = 0; what <= 10; what++) {
                values.add((long) zoneOf(zone, what));
            }
            for (int what = 0; what <= 3; what++) {
                values.add((long) strip(zone, 10, 9, what));
            }
            values.add((long) ifBurned(zone, 50, 0));
            values.add((long) ifBurned(zone, 50, 1));
        }
        values.add((long) ifExposed(200, 0));
        values.add((long) ifExposed(200, 1));
        values.add((long) bestTime());
        values.add((long) bestGrade());
        values.add((long) common(0));
        values.add((long) common(1));
        values.add(Double.doubleToLongBits(rightShare()));
        values.add((long) buffer.length());
        for (int place = 0; place < buffer.length(); place++) {
            values.add((long) buffer.charAt(place));
        }
        long hash = 2879;
        for (long value : values) {
            hash = 31 * hash + value;
        }
        return hash;
    }

    private static int light(int density, int time) {
        long light = time * new long[] {100000, 79370, 63000}[density % 3];
        for (int halved = 0; halved < density / 3; halved++) {
            light /= 2;
        }
        return (int) (light / 100);
    }

    private static int[] marks(int grade, int speed) {
        long factor = new long[] {1400, 1320, 1260, 1200, 1160, 1120}[grade];
        int[] marks = new int[10];
        marks[0] = speed * 100;
        for (int k = 1; k < 10; k++) {
            marks[k] = (int) Math.max(marks[k - 1] * factor / 1000, marks[k - 1] + 1);
        }
        return marks;
    }

    private static int tone(State state, int density, int time) {
        return tone(marks(state.grade, state.speed), light(density, time));
    }

    private static int tone(int[] marks, int light) {
        int tone = 0;
        for (int mark : marks) {
            tone += mark <= light ? 1 : 0;
        }
        return tone;
    }

    private static int tone(State state, int zone) {
        return tone(state, state.zones.get(zone).density, time(state, zone));
    }

    private static int spill(State state, int zone) {
        int sum = 0;
        for (int neighbour : state.zones.get(zone).neighbours) {
            sum += state.zones.get(neighbour).burn * state.spill / 100;
        }
        return sum;
    }

    private static int time(State state, int zone) {
        Zone one = state.zones.get(zone);
        return Math.max(state.time - one.hold, state.time / 2) + one.burn + spill(state, zone);
    }

    private static int right(State state) {
        int right = 0;
        for (int zone = 0; zone < state.zones.size(); zone++) {
            right += tone(state, zone) == state.zones.get(zone).wanted ? 1 : 0;
        }
        return right;
    }

    private static int missed(State state) {
        int sum = 0;
        for (int zone = 0; zone < state.zones.size(); zone++) {
            sum += Math.abs(tone(state, zone) - state.zones.get(zone).wanted);
        }
        return sum;
    }

    /** All times from 1 to 9999 with the wanted tone, tried one by one; kept, for it takes long. */
    private static BitSet needs(State state, int zone) {
        Zone one = state.zones.get(zone);
        long key = ((state.grade * 1000L + state.speed) * 100 + one.density) * 100 + one.wanted;
        BitSet needs = NEEDS.get(key);
        if (needs == null) {
            needs = new BitSet();
            int[] marks = marks(state.grade, state.speed);
            for (int time = 1; time <= 9999; time++) {
                if (tone(marks, light(one.density, time)) == one.wanted) {
                    needs.set(time);
                }
            }
            NEEDS.put(key, needs);
        }
        return needs;
    }

    private static void plan(State state) {
        List<Integer> least = new ArrayList<>();
        for (int zone = 0; zone < state.zones.size(); zone++) {
            state.zones.get(zone).burn = 0;
            state.zones.get(zone).hold = 0;
            if (!needs(state, zone).isEmpty()) {
                least.add(needs(state, zone).nextSetBit(0));
            }
        }
        Collections.sort(least);
        if (!least.isEmpty()) {
            state.time = Math.min(2000, least.get((least.size() - 1) / 2));
        }
        for (int zone = 0; zone < state.zones.size(); zone++) {
            Zone one = state.zones.get(zone);
            int tone = tone(state, zone);
            if (tone < one.wanted) {
                do {
                    one.burn++;
                } while (one.burn <= 999 && tone(state, zone) != one.wanted);
                one.burn = one.burn > 999 ? 0 : one.burn;
            } else if (tone > one.wanted) {
                do {
                    one.hold++;
                } while (one.hold <= 999 && tone(state, zone) != one.wanted);
                one.hold = one.hold > 999 ? 0 : one.hold;
            }
        }
    }
}
