/**
 * A print under an enlarger: zones of a negative, a paper, a time for all, burns, holds and what
 * spills, with plans, looks, questions about what would be, prints as texts, and undo.
 */
public final class ZonePrint {
    /** There is nothing to return. */
    public static final int NONE = -1;

    private static final int MOST_ZONES = 8;
    private static final int MOST_DENSITY = 24;
    private static final int MOST_TONE = 10;
    private static final int MOST_GRADE = 5;
    private static final int LEAST_SPEED = 10;
    private static final int MOST_SPEED = 999;
    private static final int MOST_TIME = 2000;
    private static final int MOST_CHANGE = 999;
    private static final int MOST_NEED = 9999;
    private static final int MOST_SPILL = 50;
    private static final int MOST_FIRST = 999;
    private static final int MOST_STRIP = 9;
    private static final int MOST_PROPERTY = 10;
    private static final int MOST_COUNT = 11;
    private static final int MOST_CODES = 60;
    private static final int LEAST_CODE = 33;
    private static final int MOST_CODE = 126;
    private static final int MOST_SAVED = 6;

    private final Print print;
    /** What would be is tried here, so that the print itself stays as it is. */
    private final Print trial;
    private final History history;
    private final OrderReader reader;
    private final int[] buffer;
    private int length;

    public ZonePrint() {
        print = new Print();
        trial = new Print();
        history = new History();
        reader = new OrderReader();
        buffer = new int[MOST_CODES];
        length = 0;
    }

    // ---- zones

    public int zone(int density, int wanted) throws IllegalArgumentException, IllegalStateException {
        if (!isWithin(density, 0, MOST_DENSITY) || !isWithin(wanted, 0, MOST_TONE)) {
            throw new IllegalArgumentException("density is 0 to 24, wanted is 0 to 10");
        }
        if (print.isFull()) {
            throw new IllegalStateException("there are 8 zones");
        }
        history.keep(print);
        return print.addZone(density, wanted);
    }

    public int want(int zone, int wanted) throws IndexOutOfBoundsException, IllegalArgumentException {
        if (!print.hasZone(zone)) {
            throw new IndexOutOfBoundsException("no such zone");
        }
        if (!isWithin(wanted, 0, MOST_TONE)) {
            throw new IllegalArgumentException("wanted is 0 to 10");
        }
        history.keep(print);
        int previous = print.wanteds[zone];
        print.wanteds[zone] = wanted;
        return previous;
    }

    public int link(int one, int other) throws IndexOutOfBoundsException, IllegalArgumentException {
        if (!print.hasZone(one) || !print.hasZone(other)) {
            throw new IndexOutOfBoundsException("no such zone");
        }
        if (one == other) {
            throw new IllegalArgumentException("a zone is not its own neighbour");
        }
        history.keep(print);
        boolean linked = !print.areNeighbours(one, other);
        print.setNeighbours(one, other, linked);
        return linked ? 1 : 0;
    }

    // ---- times, paper

    public int expose(int time) throws IllegalArgumentException {
        if (!isWithin(time, 1, MOST_TIME)) {
            throw new IllegalArgumentException("time is 1 to 2000");
        }
        history.keep(print);
        print.time = time;
        return print.zonesOff(0);
    }

    public int burn(int zone, int time) throws IndexOutOfBoundsException, IllegalArgumentException {
        if (!print.hasZone(zone)) {
            throw new IndexOutOfBoundsException("no such zone");
        }
        if (!isWithin(time, 0, MOST_CHANGE)) {
            throw new IllegalArgumentException("time is 0 to 999");
        }
        history.keep(print);
        print.burns[zone] = time;
        return print.toneOf(zone);
    }

    public int hold(int zone, int time) throws IndexOutOfBoundsException, IllegalArgumentException {
        if (!print.hasZone(zone)) {
            throw new IndexOutOfBoundsException("no such zone");
        }
        if (!isWithin(time, 0, MOST_CHANGE)) {
            throw new IllegalArgumentException("time is 0 to 999");
        }
        history.keep(print);
        print.holds[zone] = time;
        return print.toneOf(zone);
    }

    public int paper(int grade, int speed) throws IllegalArgumentException {
        if (!isWithin(grade, 0, MOST_GRADE) || !isWithin(speed, LEAST_SPEED, MOST_SPEED)) {
            throw new IllegalArgumentException("grade is 0 to 5, speed is 10 to 999");
        }
        history.keep(print);
        print.paper.take(grade, speed);
        return print.zonesOff(0);
    }

    public int plan() {
        history.keep(print);
        print.makePlan();
        return print.zonesOff(0);
    }

    public int set(int spill) throws IllegalArgumentException {
        if (!isWithin(spill, 0, MOST_SPILL)) {
            throw new IllegalArgumentException("spill is 0 to 50");
        }
        history.keep(print);
        int previous = print.spill;
        print.spill = spill;
        return previous;
    }

    // ---- texts

    public int append(int code) throws IllegalArgumentException, IllegalStateException {
        if (!isWithin(code, LEAST_CODE, MOST_CODE)) {
            throw new IllegalArgumentException("code is 33 to 126");
        }
        if (length < 0 || length >= buffer.length) {
            throw new IllegalStateException("the buffer has 60 characters");
        }
        buffer[length] = code;
        length++;
        return length;
    }

    public int clearBuffer() {
        int had = length;
        length = 0;
        return had;
    }

    public int firstError() {
        reader.restart();
        for (int place = 0; place < length && place < buffer.length; place++) {
            if (!reader.accepts(buffer[place])) {
                return place;
            }
        }
        return length;
    }

    public int run() throws IllegalArgumentException {
        // Without an error the reader stands behind the last character, and knows if an order ends there.
        if (firstError() < length || !reader.endsAnOrder()) {
            throw new IllegalArgumentException("the buffer is not a complete print");
        }
        history.keep(print);
        int done = doOrders();
        length = 0;
        return done;
    }

    public int undo() throws IllegalStateException {
        if (history.size() < 1) {
            throw new IllegalStateException("there is no saved state");
        }
        history.giveBack(print);
        return history.size();
    }

    // ---- looks; nothing is changed

    public int zoneOf(int zone, int what) throws IndexOutOfBoundsException, IllegalArgumentException {
        if (!print.hasZone(zone)) {
            throw new IndexOutOfBoundsException("no such zone");
        }
        if (!isWithin(what, 0, MOST_PROPERTY)) {
            throw new IllegalArgumentException("what is 0 to 10");
        }
        return print.property(zone, what);
    }

    public int mark(int tone) throws IllegalArgumentException {
        if (!isWithin(tone, 1, MOST_TONE)) {
            throw new IllegalArgumentException("tone is 1 to 10");
        }
        return print.paper.markOf(tone);
    }

    public int strip(int zone, int first, int times, int what)
            throws IndexOutOfBoundsException, IllegalArgumentException {
        if (!print.hasZone(zone)) {
            throw new IndexOutOfBoundsException("no such zone");
        }
        if (!isWithin(first, 1, MOST_FIRST) || !isWithin(times, 1, MOST_STRIP) || !isWithin(what, 0, 3)) {
            throw new IllegalArgumentException("first is 1 to 999, times is 1 to 9, what is 0 to 3");
        }
        return print.readStrip(zone, first, times, what);
    }

    public int count(int what) throws IllegalArgumentException {
        if (!isWithin(what, 0, MOST_COUNT)) {
            throw new IllegalArgumentException("what is 0 to 11");
        }
        return numberOf(what);
    }

    // ---- what would be; nothing is changed

    public int ifExposed(int time, int what) throws IllegalArgumentException {
        if (!isWithin(time, 1, MOST_TIME) || !isWithin(what, 0, 1)) {
            throw new IllegalArgumentException("time is 1 to 2000, what is 0 or 1");
        }
        return tryTime(time, what);
    }

    public int bestTime() {
        trial.copyFrom(print);
        int best = NONE;
        int least = 0;
        for (int time = 10; time <= MOST_TIME; time += 10) {
            trial.time = time;
            int missed = trial.missedTones();
            if (best == NONE || missed < least) {
                best = time;
                least = missed;
            }
        }
        return best;
    }

    public int bestGrade() {
        int best = NONE;
        int mostRight = 0;
        int leastChanged = 0;
        for (int grade = 0; grade <= MOST_GRADE; grade++) {
            trial.copyFrom(print);
            trial.paper.take(grade, print.paper.speed);
            trial.makePlan();
            int right = trial.zonesOff(0);
            int changed = trial.sumOf(trial.burns) + trial.sumOf(trial.holds);
            if (best == NONE || right > mostRight || right == mostRight && changed < leastChanged) {
                best = grade;
                mostRight = right;
                leastChanged = changed;
            }
        }
        return best;
    }

    public int ifBurned(int zone, int time, int what)
            throws IndexOutOfBoundsException, IllegalArgumentException {
        if (!print.hasZone(zone)) {
            throw new IndexOutOfBoundsException("no such zone");
        }
        if (!isWithin(time, 0, MOST_CHANGE) || !isWithin(what, 0, 1)) {
            throw new IllegalArgumentException("time is 0 to 999, what is 0 or 1");
        }
        return tryBurn(zone, time, what);
    }

    public int common(int what) throws IllegalArgumentException {
        if (!isWithin(what, 0, 1)) {
            throw new IllegalArgumentException("what is 0 or 1");
        }
        return print.commonNeed(what);
    }

    public double rightShare() {
        if (print.zones < 1) {
            return 1.0;
        }
        return (double) print.zonesOff(0) / print.zones;
    }

    public long digest() {
        long hash = 2879;
        for (int what = 0; what <= MOST_COUNT; what++) {
            hash = mixed(hash, numberOf(what));
        }
        hash = mixed(hash, print.spill);
        for (int tone = 1; tone <= MOST_TONE; tone++) {
            hash = mixed(hash, print.paper.markOf(tone));
        }
        // Written out here, not called: the language rules bound how deep calls may go.
        for (int zone = 0; zone < print.zones; zone++) {
            for (int what = 0; what <= MOST_PROPERTY; what++) {
                hash = mixed(hash, print.property(zone, what));
            }
            for (int what = 0; what <= 3; what++) {
                hash = mixed(hash, print.readStrip(zone, 10, MOST_STRIP, what));
            }
            hash = mixed(hash, tryBurn(zone, 50, 0));
            hash = mixed(hash, tryBurn(zone, 50, 1));
        }
        hash = mixed(hash, tryTime(200, 0));
        hash = mixed(hash, tryTime(200, 1));
        hash = mixed(hash, bestTime());
        hash = mixed(hash, bestGrade());
        hash = mixed(hash, print.commonNeed(0));
        hash = mixed(hash, print.commonNeed(1));
        hash = mixed(hash, bitsOf(rightShare()));
        hash = mixed(hash, length);
        for (int place = 0; place < length && place < buffer.length; place++) {
            hash = mixed(hash, buffer[place]);
        }
        return hash;
    }

    private static long mixed(long hash, long value) {
        return 31 * hash + value;
    }

    /** Double.doubleToLongBits of a share, 0.0 to 1.0, which the language rules leave no call for. */
    private static long bitsOf(double share) {
        if (share <= 0.0) {
            return 0L;
        }
        double fraction = share;
        long exponent = 1023;
        // Doubling is exact, so that what is left behind the leading 1 is the mantissa.
        for (; fraction < 1.0 && exponent > 0; exponent--) {
            fraction = fraction * 2.0;
        }
        return (exponent << 52) + (long) ((fraction - 1.0) * (1L << 52));
    }

    private static boolean isWithin(int number, int least, int most) {
        return number >= least && number <= most;
    }

    private int numberOf(int what) {
        switch (what) {
            case 0: return print.zones;
            case 1: return print.time;
            case 2: return print.paper.grade;
            case 3: return print.paper.speed;
            case 4: return print.zonesOff(0);
            case 5: return print.zonesOff(-1);
            case 6: return print.zonesOff(1);
            case 7: return print.sumOf(print.burns);
            case 8: return print.sumOf(print.holds);
            case 9: return print.zonesWithoutNeed();
            case 10: return print.pairs();
            default: return history.size();
        }
    }

    private int tryTime(int time, int what) {
        trial.copyFrom(print);
        trial.time = time;
        return what == 0 ? trial.zonesOff(0) : trial.missedTones();
    }

    private int tryBurn(int zone, int time, int what) {
        if (!print.hasZone(zone)) {
            return NONE;
        }
        trial.copyFrom(print);
        trial.burns[zone] = time;
        return what == 0 ? trial.toneOf(zone) : trial.zonesOff(0);
    }

    private int doOrders() {
        int done = 0;
        reader.restart();
        for (int place = 0; place < length && place < buffer.length; place++) {
            reader.accepts(buffer[place]);
            if (isLastOfOrder(place)) {
                if (!doOrder()) {
                    return done;
                }
                done++;
            }
        }
        return done;
    }

    private boolean isLastOfOrder(int place) {
        int next = place + 1;
        return next < 0 || next >= length || next >= buffer.length || buffer[next] == ';';
    }

    /** Does the order that was read last; false if its method would throw an exception. */
    private boolean doOrder() {
        int zone = reader.first;
        int last = reader.last;
        switch (reader.kind) {
            case 'z':
                return print.addZone(reader.first, last) != NONE;
            case 'n':
                if (!print.hasZone(zone) || !print.hasZone(last)) {
                    return false;
                }
                print.setNeighbours(zone, last, true);
                return true;
            case 't':
                print.time = last;
                return true;
            case 'b':
                if (!print.hasZone(zone)) {
                    return false;
                }
                print.burns[zone] = last;
                return true;
            default:
                if (!print.hasZone(zone)) {
                    return false;
                }
                print.holds[zone] = last;
                return true;
        }
    }

    /** A paper with its marks. */
    private static final class Paper {
        private static final int[] STEPS = {1400, 1320, 1260, 1200, 1160, 1120};
        private static final int[] THROUGH = {100000, 79370, 63000};

        private final int[] marks;
        private int grade;
        private int speed;

        Paper() {
            marks = new int[MOST_TONE];
            take(2, 100);
        }

        void take(int newGrade, int newSpeed) {
            if (newGrade < 0 || newGrade >= STEPS.length) {
                return;
            }
            grade = newGrade;
            speed = newSpeed;
            long mark = newSpeed * 100L;
            for (int place = 0; place < marks.length; place++) {
                marks[place] = (int) mark;
                mark = Math.max(mark * STEPS[newGrade] / 1000, mark + 1);
            }
        }

        int markOf(int tone) {
            return tone >= 1 && tone <= marks.length ? marks[tone - 1] : NONE;
        }

        int toneOf(int light) {
            int tone = 0;
            for (int place = 0; place < marks.length; place++) {
                if (marks[place] <= light) {
                    tone++;
                }
            }
            return tone;
        }

        static int lightThrough(int density, int time) {
            int third = density % 3;
            if (third < 0 || third >= THROUGH.length) {
                return 0;
            }
            // A shift by k halves k times, each time rounded down.
            long halved = (long) time * THROUGH[third] >> density / 3;
            return (int) (halved / 100);
        }

        /** The least time, 1 to MOST_NEED, with this tone or a greater one; MOST_NEED + 1 if there is none. */
        int leastTime(int density, int tone) {
            int third = density % 3;
            if (tone < 1) {
                return 1;
            }
            if (tone > marks.length || third < 0 || third >= THROUGH.length || THROUGH[third] < 1) {
                return MOST_NEED + 1;
            }
            // Rounding up once here is the inverse of all the rounding down in lightThrough.
            long dividend = marks[tone - 1] * 100L << density / 3;
            return (int) Math.min((dividend + THROUGH[third] - 1) / THROUGH[third], MOST_NEED + 1);
        }
    }

    /** All that undo restores: the zones, the times, the paper and the setting. */
    private static final class Print {
        private static final int[] THIRDS = {100, 126, 159};

        private final Paper paper;
        private final int[] densities;
        private final int[] wanteds;
        private final int[] burns;
        private final int[] holds;
        /** Bit k of a zone's mask is set if it and the zone k are neighbours. */
        private final int[] neighbours;
        /** Used by middleNeed alone, and kept so that no plan makes a new row. */
        private final int[] sortedNeeds;
        private int zones;
        private int time;
        private int spill;

        Print() {
            paper = new Paper();
            densities = new int[MOST_ZONES];
            wanteds = new int[MOST_ZONES];
            burns = new int[MOST_ZONES];
            holds = new int[MOST_ZONES];
            neighbours = new int[MOST_ZONES];
            sortedNeeds = new int[MOST_ZONES];
            zones = 0;
            time = 100;
            spill = 10;
        }

        void copyFrom(Print other) {
            paper.take(other.paper.grade, other.paper.speed);
            for (int zone = 0; zone < MOST_ZONES; zone++) {
                densities[zone] = other.densities[zone];
                wanteds[zone] = other.wanteds[zone];
                burns[zone] = other.burns[zone];
                holds[zone] = other.holds[zone];
                neighbours[zone] = other.neighbours[zone];
            }
            zones = other.zones;
            time = other.time;
            spill = other.spill;
        }

        boolean isFull() {
            return zones >= MOST_ZONES;
        }

        boolean hasZone(int zone) {
            return zone >= 0 && zone < zones && zone < MOST_ZONES;
        }

        /** The number of the new zone; NONE if there is no room for it. */
        int addZone(int density, int wanted) {
            int zone = zones;
            if (zone < 0 || zone >= MOST_ZONES) {
                return NONE;
            }
            densities[zone] = density;
            wanteds[zone] = wanted;
            burns[zone] = 0;
            holds[zone] = 0;
            neighbours[zone] = 0;
            zones++;
            return zone;
        }

        boolean areNeighbours(int one, int other) {
            return hasZone(one) && (neighbours[one] >> other & 1) == 1;
        }

        void setNeighbours(int one, int other, boolean linked) {
            if (!hasZone(one) || !hasZone(other)) {
                return;
            }
            if (linked) {
                neighbours[one] |= 1 << other;
                neighbours[other] |= 1 << one;
            } else {
                neighbours[one] &= ~(1 << other);
                neighbours[other] &= ~(1 << one);
            }
        }

        int property(int zone, int what) {
            if (!hasZone(zone)) {
                return NONE;
            }
            switch (what) {
                case 0: return densities[zone];
                case 1: return wanteds[zone];
                case 2: return burns[zone];
                case 3: return holds[zone];
                case 4: return timeOf(zone);
                case 5: return Paper.lightThrough(densities[zone], timeOf(zone));
                case 6: return toneOf(zone);
                case 7: return neighbours[zone];
                case 8: return leastNeed(zone);
                case 9: return greatestNeed(zone);
                default: return spillOnto(zone);
            }
        }

        int spillOnto(int zone) {
            if (zone < 0 || zone >= MOST_ZONES) {
                return 0;
            }
            int sum = 0;
            for (int other = 0; other < zones && other < MOST_ZONES; other++) {
                if ((neighbours[zone] >> other & 1) == 1) {
                    sum += burns[other] * spill / 100;
                }
            }
            return sum;
        }

        int timeOf(int zone) {
            if (zone < 0 || zone >= MOST_ZONES) {
                return 0;
            }
            return Math.max(time - holds[zone], time / 2) + burns[zone] + spillOnto(zone);
        }

        int toneOf(int zone) {
            if (zone < 0 || zone >= MOST_ZONES) {
                return 0;
            }
            return toneAfter(zone, timeOf(zone));
        }

        int toneAfter(int zone, int someTime) {
            if (zone < 0 || zone >= MOST_ZONES) {
                return 0;
            }
            return paper.toneOf(Paper.lightThrough(densities[zone], someTime));
        }

        /** How much darker than wanted a zone is; below 0 if it is lighter. */
        int tooDarkBy(int zone) {
            if (zone < 0 || zone >= MOST_ZONES) {
                return 0;
            }
            return toneAfter(zone, timeOf(zone)) - wanteds[zone];
        }

        /** How many zones are too light (side -1), right (0) or too dark (1). */
        int zonesOff(int side) {
            int number = 0;
            for (int zone = 0; zone < zones; zone++) {
                if (Integer.compare(tooDarkBy(zone), 0) == side) {
                    number++;
                }
            }
            return number;
        }

        int missedTones() {
            int sum = 0;
            for (int zone = 0; zone < zones; zone++) {
                sum += Math.abs(tooDarkBy(zone));
            }
            return sum;
        }

        int sumOf(int[] row) {
            int sum = 0;
            for (int zone = 0; zone < zones && zone < row.length; zone++) {
                sum += row[zone];
            }
            return sum;
        }

        int pairs() {
            int ends = 0;
            for (int zone = 0; zone < zones && zone < MOST_ZONES; zone++) {
                ends += Integer.bitCount(neighbours[zone]);
            }
            return ends / 2;
        }

        int leastNeed(int zone) {
            if (zone < 0 || zone >= MOST_ZONES) {
                return NONE;
            }
            int least = paper.leastTime(densities[zone], wanteds[zone]);
            int tooLong = paper.leastTime(densities[zone], wanteds[zone] + 1);
            return least < tooLong ? least : NONE;
        }

        int greatestNeed(int zone) {
            if (zone < 0 || zone >= MOST_ZONES) {
                return NONE;
            }
            int least = paper.leastTime(densities[zone], wanteds[zone]);
            int tooLong = paper.leastTime(densities[zone], wanteds[zone] + 1);
            return least < tooLong ? tooLong - 1 : NONE;
        }

        int zonesWithoutNeed() {
            int number = 0;
            for (int zone = 0; zone < zones; zone++) {
                if (leastNeed(zone) == NONE) {
                    number++;
                }
            }
            return number;
        }

        /** The least (what 0) or the greatest (1) time that all zones with a need share. */
        int commonNeed(int what) {
            int least = NONE;
            int greatest = MOST_NEED;
            for (int zone = 0; zone < zones; zone++) {
                if (leastNeed(zone) != NONE) {
                    least = Math.max(least, leastNeed(zone));
                    greatest = Math.min(greatest, greatestNeed(zone));
                }
            }
            if (least == NONE || least > greatest) {
                return NONE;
            }
            return what == 0 ? least : greatest;
        }

        int readStrip(int zone, int first, int times, int what) {
            if (!hasZone(zone)) {
                return NONE;
            }
            int hits = 0;
            for (int step = 0; step < times; step++) {
                int tone = toneAfter(zone, stripTime(first, step));
                if (what < 2 && tone >= wanteds[zone]) {
                    return what == 0 ? stripTime(first, step) : step;
                }
                if (tone == wanteds[zone]) {
                    hits++;
                }
            }
            switch (what) {
                case 2: return hits;
                case 3: return toneAfter(zone, stripTime(first, times - 1));
                default: return NONE;
            }
        }

        private static int stripTime(int first, int step) {
            int third = step % 3;
            if (third < 0 || third >= THIRDS.length) {
                return first;
            }
            return (first << step / 3) * THIRDS[third] / 100;
        }

        void makePlan() {
            for (int zone = 0; zone < zones && zone < MOST_ZONES; zone++) {
                burns[zone] = 0;
                holds[zone] = 0;
            }
            int middle = middleNeed();
            if (middle != NONE) {
                time = Math.min(middle, MOST_TIME);
            }
            for (int zone = 0; zone < zones; zone++) {
                correct(zone);
            }
        }

        /** The middle one of the least times that zones need, NONE if none needs any. */
        private int middleNeed() {
            int needs = 0;
            for (int zone = 0; zone < zones; zone++) {
                int need = leastNeed(zone);
                if (need != NONE && needs < sortedNeeds.length) {
                    sortIn(need, needs);
                    needs++;
                }
            }
            int middle = (needs - 1) / 2;
            return needs > 0 && middle < sortedNeeds.length ? sortedNeeds[middle] : NONE;
        }

        private void sortIn(int need, int needs) {
            if (needs < 0 || needs >= sortedNeeds.length) {
                return;
            }
            int place = needs;
            for (; place > 0 && sortedNeeds[place - 1] > need; place--) {
                sortedNeeds[place] = sortedNeeds[place - 1];
            }
            sortedNeeds[place] = need;
        }

        /** Burns or holds a zone for the least time with which it is right, if there is such a time. */
        private void correct(int zone) {
            if (zone < 0 || zone >= MOST_ZONES) {
                return;
            }
            int off = tooDarkBy(zone);
            // Longer burns never lighten and longer holds never darken: only the least one that brings
            // the tone as far as the wanted one can be the answer, and it may jump over it.
            if (off < 0) {
                int burn = paper.leastTime(densities[zone], wanteds[zone]) - timeOf(zone);
                burns[zone] = isWithin(burn, 1, MOST_CHANGE) ? burn : 0;
                if (tooDarkBy(zone) != 0) {
                    burns[zone] = 0;
                }
            } else if (off > 0) {
                int hold = timeOf(zone) - paper.leastTime(densities[zone], wanteds[zone] + 1) + 1;
                holds[zone] = isWithin(hold, 1, MOST_CHANGE) ? hold : 0;
                if (tooDarkBy(zone) != 0) {
                    holds[zone] = 0;
                }
            }
        }
    }

    /** The saved states: rows made once and used again, the oldest one first. */
    private static final class History {
        private final Print[] states;
        private int size;
        /** The place behind the latest state, counted on and taken round the row. */
        private int next;

        History() {
            states = new Print[MOST_SAVED];
            for (int place = 0; place < states.length; place++) {
                states[place] = new Print();
            }
            size = 0;
            next = 0;
        }

        int size() {
            return size;
        }

        void keep(Print print) {
            Print state = states[Math.floorMod(next, MOST_SAVED)];
            if (state == null) {
                return;
            }
            state.copyFrom(print);
            next++;
            size = Math.min(size + 1, MOST_SAVED);
        }

        void giveBack(Print print) {
            Print state = states[Math.floorMod(next - 1, MOST_SAVED)];
            if (state == null || size < 1) {
                return;
            }
            print.copyFrom(state);
            next--;
            size--;
        }
    }

    /** Reads a print as a text, character by character. */
    private static final class OrderReader {
        private static final int LETTER = 0;
        private static final int FIRST = 1;
        private static final int LAST = 2;

        /** What is read now: the letter of an order, its first or its last number. */
        private int part;
        private int kind;
        /** A number is NONE until its first digit is read. */
        private int first;
        private int last;

        OrderReader() {
            part = LETTER;
            kind = NONE;
            first = NONE;
            last = NONE;
        }

        void restart() {
            part = LETTER;
        }

        boolean endsAnOrder() {
            return part == LAST && last != NONE;
        }

        /** Reads the next character; false if it is a syntax error. */
        boolean accepts(int code) {
            switch (part) {
                case LETTER: return acceptsLetter(code);
                case FIRST: return acceptsFirst(code);
                default: return acceptsLast(code);
            }
        }

        private boolean acceptsLetter(int code) {
            if (code != 'z' && code != 'n' && code != 't' && code != 'b' && code != 'h') {
                return false;
            }
            kind = code;
            first = NONE;
            last = NONE;
            part = code == 't' ? LAST : FIRST;
            return true;
        }

        private boolean acceptsFirst(int code) {
            if (first != NONE && code == separator()) {
                part = LAST;
                return true;
            }
            int number = withDigit(first, code);
            if (number == NONE || number > mostFirst()) {
                return false;
            }
            first = number;
            if (kind == 'n') {
                part = LAST;
            }
            return true;
        }

        private boolean acceptsLast(int code) {
            if (last != NONE && code == ';') {
                part = LETTER;
                return true;
            }
            int number = withDigit(last, code);
            if (number == NONE || number < leastLast() || number > mostLast()) {
                return false;
            }
            last = number;
            return true;
        }

        /** The number with one more digit; NONE if the character is no digit or would follow a leading zero. */
        private static int withDigit(int number, int code) {
            if (code < '0' || code > '9' || number == 0) {
                return NONE;
            }
            return number == NONE ? code - '0' : number * 10 + code - '0';
        }

        private int separator() {
            return kind == 'z' ? '=' : ':';
        }

        private int mostFirst() {
            switch (kind) {
                case 'z': return MOST_DENSITY;
                // The zone 7 has no greater one that could follow.
                case 'n': return MOST_ZONES - 2;
                default: return MOST_ZONES - 1;
            }
        }

        private int leastLast() {
            switch (kind) {
                case 'n': return first + 1;
                case 't': return 1;
                default: return 0;
            }
        }

        private int mostLast() {
            switch (kind) {
                case 'z': return MOST_TONE;
                case 'n': return MOST_ZONES - 1;
                case 't': return MOST_TIME;
                default: return MOST_CHANGE;
            }
        }
    }
}
