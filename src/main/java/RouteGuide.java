/** A guide over a map of nodes and streets; ../shared/DOC.md says what each call answers. */
public final class RouteGuide {
    private static final int UNKNOWN = -1;
    private static final int OUTSIDE = -2;
    private static final int NOT_NOW = -3;
    private static final int NO_ROOM = -4;
    private static final int NO_WAY = -1;

    private static final int MAX_NODES = 60;
    private static final int MAX_STREETS = 120;
    private static final long MAX_COORDINATE = 10000L;
    private static final long MAX_SNAP_COORDINATE = 20000L;
    private static final long MAX_SNAP_SQUARE = 2500L;
    private static final long MAX_LENGTH = 100000L;
    private static final long MAX_SPEED = 1000L;
    private static final int MAX_CLASS = 3;
    private static final long MAX_RATE = 1000000L;

    private static final int BY_TIME = 0;
    private static final int BY_LENGTH = 1;
    private static final int BY_BATTERY = 2;
    private static final int FULL = 20;
    private static final int LEVELS = FULL + 1;

    // Every street uses a unit or more, and a least way comes to the end of a street
    // with the same energy only once: so many streets at most are in a row.
    private static final int MAX_ROW = MAX_STREETS * FULL;

    // A key is cost * SCALE + number of streets, so that one comparison weighs both.
    private static final long SCALE = 4096L;
    private static final long FAR = Long.MAX_VALUE / 4;
    private static final long CLOSED = -1L;

    private final Places places;
    private final Streets streets;
    private final WayFinder finder;
    private final NameSearch names;
    private final MapParts parts;
    private Way way;
    private Way spare;
    private boolean planned;
    private long plans;
    private int lastCharger;

    public RouteGuide() {
        places = new Places();
        streets = new Streets();
        finder = new WayFinder(places, streets);
        names = new NameSearch();
        parts = new MapParts();
        way = new Way();
        spare = new Way();
        planned = false;
        plans = 0L;
        lastCharger = 0;
    }

    public int node(long x, long y) {
        if (!isWithin(x, MAX_COORDINATE) || !isWithin(y, MAX_COORDINATE)) {
            return OUTSIDE;
        }
        if (places.isFull()) {
            return NO_ROOM;
        }
        return places.add(x, y);
    }

    public int street(int a, int b, long metres, long speed, int cls) throws ArithmeticException {
        if (!places.has(a) || !places.has(b)) {
            return UNKNOWN;
        }
        if (a == b || metres < 1L || metres > MAX_LENGTH) {
            return OUTSIDE;
        }
        if (speed < 0L || speed > MAX_SPEED || cls < 0 || cls > MAX_CLASS) {
            return OUTSIDE;
        }
        if (streets.isFull()) {
            return NO_ROOM;
        }
        if (speed == 0L) {
            throw new ArithmeticException("a street of speed 0");
        }
        return streets.add(a, b, metres, speed, cls);
    }

    public int turn(int from, int to, boolean barred) {
        if (!streets.has(from) || !streets.has(to)) {
            return UNKNOWN;
        }
        if (streets.beginOf(to) != streets.endOf(from)) {
            return OUTSIDE;
        }
        if (streets.isBarred(from, to) == barred) {
            return 0;
        }
        streets.flipBarred(from, to);
        return 1;
    }

    public int charger(int node, long perSecond) {
        if (!places.has(node)) {
            return UNKNOWN;
        }
        if (perSecond < 0L || perSecond > MAX_RATE) {
            return OUTSIDE;
        }
        places.setRate(node, perSecond);
        return places.countChargers();
    }

    public int plan(int from, int to, int kind, long energy) {
        if (!places.has(from) || !places.has(to) || kind < BY_TIME || kind > BY_BATTERY) {
            return OUTSIDE;
        }
        if (kind == BY_BATTERY && (energy < 0L || energy > FULL)) {
            return OUTSIDE;
        }
        finder.setTask(from, to, kind, kind == BY_BATTERY ? (int) energy : 0);
        planned = true;
        if (!findIntoSpare()) {
            way.drop();
            return NO_WAY;
        }
        takeSpare();
        return way.size();
    }

    public int at(int i) {
        return way.streetAt(i);
    }

    public long cost() {
        return way.isThere() ? way.total() : NO_WAY;
    }

    public int snap(long x, long y, int heading) {
        if (!isWithin(x, MAX_SNAP_COORDINATE) || !isWithin(y, MAX_SNAP_COORDINATE)) {
            return OUTSIDE;
        }
        if (heading < -1 || heading > 7) {
            return OUTSIDE;
        }
        int nearest = 0;
        long least = MAX_SNAP_SQUARE + 1L;
        for (int s = 1; s <= streets.count(); s++) {
            if (fitsHeading(s, heading)) {
                long square = squareFrom(s, x, y);
                if (square < least) {
                    least = square;
                    nearest = s;
                }
            }
        }
        return nearest;
    }

    public int traffic(int street, long speed, long until) {
        if (!streets.has(street)) {
            return UNKNOWN;
        }
        if (speed < 0L || speed > MAX_SPEED || until < 0L) {
            return OUTSIDE;
        }
        streets.setTraffic(street, speed, until);
        return streets.countTraffic(plans + 1L);
    }

    public int replan(long gain) {
        if (gain < 0L) {
            return OUTSIDE;
        }
        if (!planned) {
            return NOT_NOW;
        }
        if (!findIntoSpare() || !isSpareWorth(gain)) {
            return 0;
        }
        takeSpare();
        return 1;
    }

    public int advice(int i, int what) {
        if (i < 0 || i >= way.size() - 1) {
            return UNKNOWN;
        }
        switch (what) {
            case 0:
                return adviceBetween(way.streetAt(i), way.streetAt(i + 1));
            case 1:
                return way.streetAt(i + 1);
            case 2:
                return way.askFirst(i) ? 1 : 0;
            default:
                return OUTSIDE;
        }
    }

    public int search(int c) {
        if (c != 0 && !names.isLetter(c)) {
            return OUTSIDE;
        }
        if (c == 0) {
            names.clear();
        } else if (names.isFull()) {
            return NOT_NOW;
        } else {
            names.add(c);
        }
        return names.countMatches(places.count());
    }

    public int last() {
        return lastCharger;
    }

    public int part(int edition, int n) {
        if (n < 0 || n >= MapParts.PARTS || edition < 1) {
            return OUTSIDE;
        }
        return parts.take(edition, n) ? 1 : 0;
    }

    private static boolean isWithin(long coordinate, long most) {
        return coordinate >= -most && coordinate <= most;
    }

    /** Each finding is a plan of its own number, whether it finds a way or not. */
    private boolean findIntoSpare() {
        plans++;
        finder.weigh(plans);
        boolean found = finder.findInto(spare);
        lastCharger = found ? 0 : finder.nearestCharger();
        return found;
    }

    private void takeSpare() {
        Way before = way;
        way = spare;
        spare = before;
    }

    private boolean isSpareWorth(long gain) {
        if (!way.isThere()) {
            return true;
        }
        long now = finder.totalNow(way);
        if (now < 0L) {
            return true;
        }
        return now - spare.total() >= gain && !way.isSameRow(spare);
    }

    private long stepX(int s) {
        return places.xOf(streets.endOf(s)) - places.xOf(streets.beginOf(s));
    }

    private long stepY(int s) {
        return places.yOf(streets.endOf(s)) - places.yOf(streets.beginOf(s));
    }

    private int adviceBetween(int s, int t) {
        return Geometry.adviceKind(stepX(s), stepY(s), stepX(t), stepY(t));
    }

    private boolean fitsHeading(int s, int heading) {
        if (heading < 0) {
            return true;
        }
        int octant = Geometry.octant(stepX(s), stepY(s));
        if (octant < 0) {
            return false;
        }
        int apart = (octant - heading) & 7;
        return apart <= 1 || apart == 7;
    }

    private long squareFrom(int s, long x, long y) {
        int a = streets.beginOf(s);
        return Geometry.squareFromPiece(x - places.xOf(a), y - places.yOf(a), stepX(s), stepY(s));
    }

    /** The nodes with their places and chargers; number 0 is no node. */
    private static final class Places {
        private final long[] x = new long[MAX_NODES + 1];
        private final long[] y = new long[MAX_NODES + 1];
        private final long[] rate = new long[MAX_NODES + 1];
        private int count = 0;

        int count() {
            return count;
        }

        boolean has(int n) {
            return n >= 1 && n <= count;
        }

        boolean isFull() {
            return count >= MAX_NODES;
        }

        int add(long atX, long atY) {
            count++;
            x[count] = atX;
            y[count] = atY;
            return count;
        }

        long xOf(int n) {
            return x[n];
        }

        long yOf(int n) {
            return y[n];
        }

        long squareBetween(int a, int b) {
            long dx = x[a] - x[b];
            long dy = y[a] - y[b];
            return dx * dx + dy * dy;
        }

        void setRate(int n, long perSecond) {
            rate[n] = perSecond;
        }

        boolean hasCharger(int n) {
            return rate[n] > 0L;
        }

        /** The time that one unit takes; 0 without a charger, where none can be had. */
        long unitTime(int n) {
            long r = rate[n];
            return r > 0L ? Math.max(1L, 1000L / r) : 0L;
        }

        int countChargers() {
            int chargers = 0;
            for (int n = 1; n <= count; n++) {
                if (hasCharger(n)) {
                    chargers++;
                }
            }
            return chargers;
        }
    }

    /**
     * The streets with their traffic and barred turns. Number 0 is no street: it stands for
     * having driven none yet, and ends at the first node of what is planned.
     */
    private static final class Streets {
        private static final int WORDS = MAX_STREETS / 64 + 1;

        private final int[] begin = new int[MAX_STREETS + 1];
        private final int[] end = new int[MAX_STREETS + 1];
        private final long[] length = new long[MAX_STREETS + 1];
        private final long[] speed = new long[MAX_STREETS + 1];
        private final int[] cls = new int[MAX_STREETS + 1];
        private final long[] trafficSpeed = new long[MAX_STREETS + 1];
        private final long[] trafficUntil = new long[MAX_STREETS + 1];
        // A bit for each turn, because a row of flags for all pairs would fill the room.
        private final long[] barred = new long[(MAX_STREETS + 1) * WORDS];
        private int count = 0;

        int count() {
            return count;
        }

        boolean has(int s) {
            return s >= 1 && s <= count;
        }

        boolean isFull() {
            return count >= MAX_STREETS;
        }

        int add(int a, int b, long metres, long metresPerTime, int klass) {
            count++;
            begin[count] = a;
            end[count] = b;
            length[count] = metres;
            speed[count] = metresPerTime;
            cls[count] = klass;
            return count;
        }

        void setFirstNode(int n) {
            end[0] = n;
        }

        int beginOf(int s) {
            return begin[s];
        }

        int endOf(int s) {
            return end[s];
        }

        long lengthOf(int s) {
            return length[s];
        }

        int useOf(int s) {
            return (int) (1L + length[s] * (1L + cls[s]) / 20000L);
        }

        boolean isBarred(int from, int to) {
            return (barred[from * WORDS + to / 64] >>> (to % 64) & 1L) != 0L;
        }

        void flipBarred(int from, int to) {
            barred[from * WORDS + to / 64] ^= 1L << (to % 64);
        }

        void setTraffic(int s, long newSpeed, long until) {
            trafficSpeed[s] = newSpeed;
            trafficUntil[s] = until;
        }

        int countTraffic(long plan) {
            int found = 0;
            for (int s = 1; s <= count; s++) {
                if (plan <= trafficUntil[s]) {
                    found++;
                }
            }
            return found;
        }

        long timeAt(int s, long plan) {
            long v = plan <= trafficUntil[s] ? trafficSpeed[s] : speed[s];
            return v > 0L ? 1000L * length[s] / v : CLOSED;
        }
    }

    /** A row of streets with its cost, and which advice was asked for. */
    private static final class Way {
        // Below 0 where the advice behind the street was asked for: a row less in the room.
        private final int[] row = new int[MAX_ROW];
        private int size = 0;
        private long total = 0L;
        private boolean there = false;

        boolean isThere() {
            return there;
        }

        int size() {
            return size;
        }

        long total() {
            return total;
        }

        int streetAt(int i) {
            return i >= 0 && i < size ? Math.abs(row[i]) : 0;
        }

        void drop() {
            there = false;
            size = 0;
            total = 0L;
        }

        void add(int s) {
            if (size < MAX_ROW) {
                row[size] = s;
                size++;
            }
        }

        void finish(long cost) {
            there = true;
            total = cost;
        }

        boolean askFirst(int i) {
            if (i < 0 || i >= size || row[i] < 0) {
                return false;
            }
            row[i] = -row[i];
            return true;
        }

        boolean isSameRow(Way other) {
            if (size != other.size) {
                return false;
            }
            for (int i = 0; i < size; i++) {
                if (streetAt(i) != other.streetAt(i)) {
                    return false;
                }
            }
            return true;
        }
    }

    /**
     * Finds least ways. A state is the street that was driven last (0: none yet) and a level
     * of energy at its end; by time or length alone there is one level.
     */
    private static final class WayFinder {
        private final Places places;
        private final Streets streets;
        private final Frontier frontier = new Frontier();
        private final long[] weight = new long[MAX_STREETS + 1];
        private final int[] use = new int[MAX_STREETS + 1];
        private final long[] unit = new long[MAX_NODES + 1];
        private final int[] reach = new int[MAX_STREETS + 1];
        private final long[] held = new long[LEVELS];
        private int from = 0;
        private int to = 0;
        private int kind = BY_TIME;
        private int energy = 0;

        WayFinder(Places places, Streets streets) {
            this.places = places;
            this.streets = streets;
        }

        void setTask(int first, int end, int how, int units) {
            from = first;
            to = end;
            kind = how;
            energy = units;
            streets.setFirstNode(first);
        }

        /** The keys of all streets and units, and the uses, as they are at a plan. */
        void weigh(long plan) {
            for (int n = 1; n <= places.count(); n++) {
                unit[n] = kind == BY_BATTERY ? places.unitTime(n) * SCALE : 0L;
            }
            for (int s = 1; s <= streets.count(); s++) {
                long time = streets.timeAt(s, plan);
                long price = kind == BY_LENGTH ? streets.lengthOf(s) : time;
                weight[s] = time == CLOSED ? CLOSED : price * SCALE + 1L;
                use[s] = kind == BY_BATTERY ? streets.useOf(s) : 0;
            }
        }

        boolean findInto(Way way) {
            way.drop();
            if (from == to) {
                way.finish(0L);
                return true;
            }
            measureBackwards();
            long least = frontier.keyOf(startState());
            if (least >= FAR) {
                return false;
            }
            follow(way, least);
            way.finish(least / SCALE);
            return true;
        }

        /** What a way found before costs now, or a number below 0 if it is none any more. */
        long totalNow(Way way) {
            holdStart();
            int s = 0;
            for (int i = 0; i < way.size(); i++) {
                int t = way.streetAt(i);
                if (!mayFollow(s, t)) {
                    return NO_WAY;
                }
                charge(streets.endOf(s));
                drive(t);
                s = t;
            }
            long least = leastHeld();
            return least >= FAR ? NO_WAY : least / SCALE;
        }

        /** The charger that is nearest to the end of those in reach; 0 if there is none. */
        int nearestCharger() {
            if (kind != BY_BATTERY) {
                return 0;
            }
            spreadReach();
            int nearest = 0;
            long least = 0L;
            for (int n = 1; n <= places.count(); n++) {
                if (places.hasCharger(n) && isReached(n)) {
                    long square = places.squareBetween(n, to);
                    if (nearest == 0 || square < least) {
                        nearest = n;
                        least = square;
                    }
                }
            }
            return nearest;
        }

        private int levels() {
            return kind == BY_BATTERY ? LEVELS : 1;
        }

        private int startState() {
            return energy;
        }

        private boolean mayFollow(int s, int t) {
            return weight[t] != CLOSED
                    && streets.beginOf(t) == streets.endOf(s)
                    && !streets.isBarred(s, t);
        }

        /** What is still to come from each state, as far as the first one needs it. */
        private void measureBackwards() {
            int levels = levels();
            int states = (streets.count() + 1) * levels;
            frontier.reset(states);
            for (int s = 1; s <= streets.count(); s++) {
                for (int e = 0; e < levels && streets.endOf(s) == to; e++) {
                    frontier.lower(s * levels + e, 0L);
                }
            }
            for (int n = 0; n < states; n++) {
                int state = frontier.takeLeast();
                if (state < 0 || state == startState()) {
                    return;
                }
                spreadBackwards(state / levels, state % levels, frontier.keyOf(state));
            }
        }

        private void spreadBackwards(int t, int level, long key) {
            int levels = levels();
            long oneUnit = unit[streets.endOf(t)];
            if (level > 0 && oneUnit > 0L) {
                frontier.lower(t * levels + level - 1, key + oneUnit);
            }
            int before = level + use[t];
            if (t == 0 || before >= levels) {
                return;
            }
            for (int s = 0; s <= streets.count(); s++) {
                if (mayFollow(s, t)) {
                    frontier.lower(s * levels + before, key + weight[t]);
                }
            }
        }

        /** Street by street, the least number by which the least key can still be met. */
        private void follow(Way way, long least) {
            holdStart();
            int s = 0;
            for (int n = 0; n < MAX_ROW && streets.endOf(s) != to; n++) {
                charge(streets.endOf(s));
                int t = leastNext(s, least);
                if (t == 0) {
                    return;
                }
                drive(t);
                way.add(t);
                s = t;
            }
        }

        private int leastNext(int s, long least) {
            for (int t = 1; t <= streets.count(); t++) {
                if (mayFollow(s, t) && meets(t, least)) {
                    return t;
                }
            }
            return 0;
        }

        /** One row may be driven by several chargings, so each level held is tried. */
        private boolean meets(int t, long least) {
            int levels = levels();
            for (int e = use[t]; e < levels; e++) {
                long rest = frontier.keyOf(t * levels + e - use[t]);
                if (held[e] + weight[t] + rest == least) {
                    return true;
                }
            }
            return false;
        }

        private void holdStart() {
            for (int e = 0; e < LEVELS; e++) {
                held[e] = FAR;
            }
            held[energy] = 0L;
        }

        private void charge(int node) {
            long oneUnit = unit[node];
            if (oneUnit == 0L) {
                return;
            }
            for (int e = 0; e < FULL; e++) {
                held[e + 1] = Math.min(held[e + 1], held[e] + oneUnit);
            }
        }

        private void drive(int t) {
            for (int e = 0; e < LEVELS; e++) {
                int before = e + use[t];
                held[e] = before < LEVELS && held[before] < FAR ? held[before] + weight[t] : FAR;
            }
        }

        private long leastHeld() {
            long least = FAR;
            for (int e = 0; e < LEVELS; e++) {
                least = Math.min(least, held[e]);
            }
            return least;
        }

        /** The most energy with which the end of each street can be had; -1 if it can not. */
        private void spreadReach() {
            reach[0] = topUp(from, energy);
            for (int s = 1; s <= streets.count(); s++) {
                reach[s] = -1;
            }
            boolean more = true;
            for (int round = 0; more && round <= MAX_ROW; round++) {
                more = false;
                for (int s = 0; s <= streets.count(); s++) {
                    if (reach[s] >= 0 && reachOnFrom(s)) {
                        more = true;
                    }
                }
            }
        }

        private boolean reachOnFrom(int s) {
            boolean more = false;
            for (int t = 1; t <= streets.count(); t++) {
                if (mayFollow(s, t) && reach[s] >= use[t]) {
                    int level = topUp(streets.endOf(t), reach[s] - use[t]);
                    if (level > reach[t]) {
                        reach[t] = level;
                        more = true;
                    }
                }
            }
            return more;
        }

        private int topUp(int node, int level) {
            return places.hasCharger(node) ? FULL : level;
        }

        private boolean isReached(int node) {
            for (int s = 0; s <= streets.count(); s++) {
                if (reach[s] >= 0 && streets.endOf(s) == node) {
                    return true;
                }
            }
            return false;
        }
    }

    /** States by their keys, the least first: a binary heap with the place of each state. */
    private static final class Frontier {
        private static final int MAX_STATES = (MAX_STREETS + 1) * LEVELS;
        private static final int MAX_DEPTH = 32;

        private final long[] key = new long[MAX_STATES];
        private final int[] place = new int[MAX_STATES];
        private final int[] heap = new int[MAX_STATES + 1];
        private int size = 0;

        void reset(int states) {
            size = 0;
            for (int state = 0; state < states && state < MAX_STATES; state++) {
                key[state] = FAR;
                place[state] = 0;
            }
        }

        long keyOf(int state) {
            return key[state];
        }

        void lower(int state, long newKey) {
            if (newKey >= key[state]) {
                return;
            }
            key[state] = newKey;
            if (place[state] == 0) {
                size++;
                place[state] = size;
            }
            rise(state);
        }

        /** The state of the least key, which leaves; -1 if there is none. */
        int takeLeast() {
            if (size == 0) {
                return -1;
            }
            int least = heap[1];
            int moved = heap[size];
            size--;
            if (size > 0) {
                sinkFromTop(moved);
            }
            return least;
        }

        /** Greater states above the given one come down, until it has its place. */
        private void rise(int state) {
            int where = place[state];
            for (int depth = 0; depth < MAX_DEPTH && where > 1; depth++) {
                int above = heap[where / 2];
                if (key[above] <= key[state]) {
                    break;
                }
                heap[where] = above;
                place[above] = where;
                where = where / 2;
            }
            heap[where] = state;
            place[state] = where;
        }

        /** Lesser states come up from the top on, until the given one has its place. */
        private void sinkFromTop(int state) {
            int where = 1;
            for (int depth = 0; depth < MAX_DEPTH && 2 * where <= size; depth++) {
                int next = 2 * where;
                if (next < size && key[heap[next + 1]] < key[heap[next]]) {
                    next++;
                }
                int below = heap[next];
                if (key[state] <= key[below]) {
                    break;
                }
                heap[where] = below;
                place[below] = where;
                where = next;
            }
            heap[where] = state;
            place[state] = where;
        }
    }

    /** Steps and places in coordinates, all in whole numbers. */
    private static final class Geometry {
        /** 0 on, 1 right, 2 left, 3 back. */
        static int adviceKind(long ax, long ay, long bx, long by) {
            long c = ax * by - ay * bx;
            long d = ax * bx + ay * by;
            long twice = 2L * Math.abs(c);
            if (twice <= d) {
                return 0;
            }
            if (twice <= -d) {
                return 3;
            }
            return c > 0L ? 2 : 1;
        }

        /** 0 .. 7, or -1 for a step of nothing. */
        static int octant(long x, long y) {
            if (x > 0L && y >= 0L) {
                return y < x ? 0 : 1;
            }
            if (x <= 0L && y > 0L) {
                return -x < y ? 2 : 3;
            }
            if (x < 0L) {
                return -y < -x ? 4 : 5;
            }
            if (y < 0L) {
                return x < -y ? 6 : 7;
            }
            return -1;
        }

        /** The whole square of the distance of p from the piece from 0 to v. */
        static long squareFromPiece(long px, long py, long vx, long vy) {
            long along = px * vx + py * vy;
            long full = vx * vx + vy * vy;
            if (along <= 0L || full <= 0L) {
                return px * px + py * py;
            }
            if (along >= full) {
                return (px - vx) * (px - vx) + (py - vy) * (py - vy);
            }
            long cross = px * vy - py * vx;
            return cross * cross / full;
        }
    }

    /** The letters typed so far, and which names begin with them. */
    private static final class NameSearch {
        private static final int LETTERS = 3;
        private static final int FIRST = 97;
        private static final int LAST = 122;

        private final int[] typed = new int[LETTERS];
        private int size = 0;

        boolean isLetter(int c) {
            return c >= FIRST && c <= LAST;
        }

        boolean isFull() {
            return size >= LETTERS;
        }

        void clear() {
            size = 0;
        }

        void add(int c) {
            if (size < LETTERS) {
                typed[size] = c - FIRST;
                size++;
            }
        }

        int countMatches(int nodes) {
            int found = 0;
            for (int n = 1; n <= nodes; n++) {
                if (begins(n)) {
                    found++;
                }
            }
            return found;
        }

        private boolean begins(int n) {
            for (int i = 0; i < size; i++) {
                if (typed[i] != letterOf(n, i)) {
                    return false;
                }
            }
            return true;
        }

        private static int letterOf(int n, int i) {
            switch (i) {
                case 0:
                    return n / 676;
                case 1:
                    return n / 26 % 26;
                default:
                    return n % 26;
            }
        }
    }

    /** The parts of one edition of the map; a whole edition makes room for a greater one. */
    private static final class MapParts {
        static final int PARTS = 8;
        private static final int NONE = 0;
        private static final int ALL = (1 << PARTS) - 1;

        private int edition = 0;
        private int have = NONE;

        boolean take(int newEdition, int n) {
            if (have == NONE || (have == ALL && newEdition > edition)) {
                edition = newEdition;
                have = 1 << n;
                return true;
            }
            if (newEdition != edition || (have >> n & 1) != 0) {
                return false;
            }
            have |= 1 << n;
            return true;
        }
    }
}
