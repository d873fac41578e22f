import java.util.Arrays;

/** A green with plots round it, and houses on them, of which each night one is rolled onto an empty plot. */
public final class NightPlots {
    public static final int NONE = -1, UNKNOWN = -2, OUTSIDE = -3, NOT = -4, FULL = -5;

    private static final int AGE = 0, TURN = 1, REST = 2, LOT = 3;
    private static final int NARROW = 0, CART = 1, STUCK = 2, WIDE = 3;

    private static final int FEWEST_PLOTS = 3, MOST_PLOTS = 12, PLOTS_AT_FIRST = 6;
    private static final int MOST_HOUSES = 8, MOST_PATHS = 6, MOST_FEUDS = 6;
    private static final int MOST_WAYS = 2 + MOST_PATHS;
    private static final int MOST_CROP = 9, MOST_SEED = 9999;
    private static final int MOST_BYTES = 200, MOST_BYTES_A_CALL = 8, MOST_LINES = 12;
    private static final int MOST_NIGHTS = 9999, MOST_NIGHTS_A_CALL = 99;
    private static final int KEEPS = 2, MOST_SEEN = 8;
    private static final int A_ROLL = 20;
    private static final int LAST_NIGHT_OF_WHEN = 399, LAST_NIGHT_OF_ROUND = 500, LAST_NIGHT_OF_NEAREST = 5;

    private final Told told = new Told();
    private final Told draft = new Told();
    private final Text text = new Text();
    private final Standing now = new Standing(told);
    private final Standing ahead = new Standing(told);
    private final Standing[] kept = new Standing[KEEPS];
    private final boolean[] isKept = new boolean[KEEPS];
    private final Search search = new Search(ahead);
    private final int[] ways = new int[MOST_WAYS];
    private final long[] passed = new long[LAST_NIGHT_OF_ROUND + 1];
    private final int[] seenHouse = new int[MOST_SEEN];
    private final int[] seenPlot = new int[MOST_SEEN];
    private final int[] seenNight = new int[MOST_SEEN];
    private int seenSoFar;

    public NightPlots() {
        for (int k = 0; k < KEEPS; k++) {
            kept[k] = new Standing(told);
        }
    }

    // ---- what is told

    public int write(long bytes, int n) {
        if (n < 1 || n > MOST_BYTES_A_CALL) {
            return OUTSIDE;
        }
        return text.append(bytes, n) ? text.length : FULL;
    }

    public int erase() {
        int had = text.length;
        text.length = 0;
        return had;
    }

    public int fault() {
        draft.copyFrom(told);
        return text.readInto(draft);
    }

    public int green() {
        draft.copyFrom(told);
        if (text.readInto(draft) != NONE) {
            return NOT;
        }
        told.copyFrom(draft);
        text.length = 0;
        now.startAsTold();
        seenSoFar = 0;
        for (int k = 0; k < KEEPS; k++) {
            isKept[k] = false;
        }
        return text.lines;
    }

    public int plot(int plot, int what) {
        if (!isPlot(plot)) {
            return UNKNOWN;
        }
        if (what < 0 || what > 1) {
            return OUTSIDE;
        }
        return what == 0 ? now.houseOn(plot) : told.crop[plot];
    }

    public int house(int house, int what) {
        if (!isHouse(house)) {
            return UNKNOWN;
        }
        switch (what) {
            case 0:
                return told.kind[house];
            case 1:
                return now.place[house];
            case 2:
                return now.rolled[house] == 0 ? NONE : now.nights - now.rolled[house];
            default:
                return OUTSIDE;
        }
    }

    public int as(int house, int kind) {
        if (!isHouse(house)) {
            return UNKNOWN;
        }
        if (kind < 0 || kind > 4) {
            return OUTSIDE;
        }
        return isSuch(told.kind[house], kind) ? now.findWays(house, ways) : NOT;
    }

    // ---- nights

    public int can(int house, int i) {
        if (!isHouse(house)) {
            return UNKNOWN;
        }
        if (i < 0) {
            return OUTSIDE;
        }
        int found = now.findWays(house, ways);
        return i < found && i < ways.length ? ways[i] : NONE;
    }

    public int go(int n) {
        if (n < 1 || n > MOST_NIGHTS_A_CALL) {
            return OUTSIDE;
        }
        if (now.nights + n > MOST_NIGHTS) {
            return FULL;
        }
        for (int i = 0; i < n; i++) {
            now.passNight(told.law);
        }
        return now.nights;
    }

    public int roll(int house, int plot) {
        if (!isHouse(house) || !isPlot(plot)) {
            return UNKNOWN;
        }
        if (!now.hasWayTo(house, plot)) {
            return NOT;
        }
        if (now.nights >= MOST_NIGHTS) {
            return FULL;
        }
        now.passNightOf(house, plot, told.law);
        return now.nights;
    }

    public int keep(int k) {
        if (k < 0 || k >= KEEPS) {
            return UNKNOWN;
        }
        kept[k].copyFrom(now);
        isKept[k] = true;
        return now.nights;
    }

    public int back(int k) {
        if (k < 0 || k >= KEEPS) {
            return UNKNOWN;
        }
        if (!isKept[k]) {
            return NOT;
        }
        now.copyFrom(kept[k]);
        return now.nights;
    }

    // ---- foretold

    public int later(int house, int t) {
        if (!isHouse(house)) {
            return UNKNOWN;
        }
        if (t < 0 || t > MOST_NIGHTS_A_CALL) {
            return OUTSIDE;
        }
        ahead.copyFrom(now);
        for (int night = 0; night < t; night++) {
            ahead.passNight(told.law);
        }
        return ahead.place[house];
    }

    public int round(int what) {
        if (what < 0 || what > 1) {
            return OUTSIDE;
        }
        ahead.copyFrom(now);
        for (int night = 0; night <= LAST_NIGHT_OF_ROUND; night++) {
            long key = ahead.stateKey(told.law);
            int first = firstNightWith(key, night);
            if (first != NONE) {
                return what == 0 ? first : night - first;
            }
            passed[night] = key;
            ahead.passNight(told.law);
        }
        return NONE;
    }

    public int touch(int a, int b, int what) {
        int refusal = refusePair(a, b, what);
        if (refusal != 0) {
            return refusal;
        }
        return now.meets(a, b, what) ? 1 : 0;
    }

    public int when(int a, int b, int what) {
        int refusal = refusePair(a, b, what);
        if (refusal != 0) {
            return refusal;
        }
        ahead.copyFrom(now);
        return firstMeeting(a, b, what, LAST_NIGHT_OF_WHEN);
    }

    public int often(int a, int b, int what, int days) {
        int refusal = refusePair(a, b, what);
        if (refusal != 0) {
            return refusal;
        }
        if (!areDays(days)) {
            return OUTSIDE;
        }
        int met = 0;
        ahead.copyFrom(now);
        for (int day = 0; day < days; day++) {
            if (ahead.meets(a, b, what)) {
                met++;
            }
            ahead.passNight(told.law);
        }
        return met;
    }

    public int brings(int house, int days) {
        if (!isHouse(house)) {
            return UNKNOWN;
        }
        if (!areDays(days)) {
            return OUTSIDE;
        }
        int sum = 0;
        ahead.copyFrom(now);
        for (int day = 0; day < days; day++) {
            sum += ahead.cropUnder(house);
            ahead.passNight(told.law);
        }
        return sum;
    }

    public int feuding(int days) {
        if (!areDays(days)) {
            return OUTSIDE;
        }
        int sum = 0;
        ahead.copyFrom(now);
        for (int day = 0; day < days; day++) {
            if (ahead.hasFeudBeside()) {
                sum++;
            }
            ahead.passNight(told.law);
        }
        return sum;
    }

    public int nearest(int a, int b, int what) {
        int refusal = refusePair(a, b, what);
        if (refusal != 0) {
            return refusal;
        }
        if (now.areBeside(a, b)) {
            return what == 0 ? 0 : NONE;
        }
        ahead.copyFrom(now);
        search.prepare(a, b);
        for (int nights = 1; nights <= LAST_NIGHT_OF_NEAREST; nights++) {
            if (Search.reaches(search, nights)) {
                return what == 0 ? nights : search.firstRoll;
            }
        }
        return NONE;
    }

    public int mends(int a, int b, int nights, int what) {
        int refusal = refusePair(a, b, what);
        if (refusal != 0) {
            return refusal;
        }
        if (nights < 0 || nights > MOST_NIGHTS_A_CALL) {
            return OUTSIDE;
        }
        int stuck = told.stuckOnes();
        int bestSet = NONE;
        int bestCost = NONE;
        for (int set = 0; set < 1 << MOST_HOUSES; set++) {
            int cost = costOf(set);
            boolean cheaper = bestSet == NONE || cost < bestCost;
            if ((set & ~stuck) != 0 || !cheaper) {
                continue;
            }
            ahead.copyFrom(now);
            ahead.mended = set;
            if (firstMeeting(a, b, 0, nights) != NONE) {
                bestSet = set;
                bestCost = cost;
            }
        }
        return what == 0 ? bestCost : bestSet;
    }

    // ---- what was seen

    public int seen(int house, int plot, int t) {
        if (!isHouse(house) || !isPlot(plot)) {
            return UNKNOWN;
        }
        if (t < 0 || t > MOST_NIGHTS_A_CALL) {
            return OUTSIDE;
        }
        if (seenSoFar >= MOST_SEEN) {
            return FULL;
        }
        seenHouse[seenSoFar] = house;
        seenPlot[seenSoFar] = plot;
        seenNight[seenSoFar] = t;
        seenSoFar++;
        return seenSoFar;
    }

    public int forget() {
        int had = seenSoFar;
        seenSoFar = 0;
        return had;
    }

    public int laws() {
        int bits = 0;
        for (int law = AGE; law <= REST; law++) {
            if (explainsAllSeen(law)) {
                bits |= 1 << law;
            }
        }
        return bits;
    }

    public int count(int what) {
        switch (what) {
            case 0:
                return told.plots;
            case 1:
                return told.houses;
            case 2:
                return told.paths;
            case 3:
                return told.feuds;
            case 4:
                return told.law;
            case 5:
                return now.nights;
            case 6:
                return told.law == TURN ? now.turn : NONE;
            case 7:
                return told.law == LOT ? now.x : NONE;
            case 8:
                return seenSoFar;
            case 9:
                return told.allPlots() & ~now.taken;
            case 10:
                return text.length;
            default:
                return OUTSIDE;
        }
    }

    // ---- helpers

    private boolean isPlot(int plot) {
        return plot >= 0 && plot < told.plots;
    }

    private boolean isHouse(int house) {
        return house >= 0 && house < told.houses;
    }

    private static boolean areDays(int days) {
        return days >= 1 && days <= MOST_NIGHTS_A_CALL;
    }

    /** The refusal of a pair of houses with a what of 0 or 1; 0: none. */
    private int refusePair(int a, int b, int what) {
        if (!isHouse(a) || !isHouse(b)) {
            return UNKNOWN;
        }
        return what < 0 || what > 1 || a == b ? OUTSIDE : 0;
    }

    /** The kinds of as() are 0 HOUSE, 1 NARROW, 2 CART, 3 STUCK, 4 WIDE: a house's own kind and 1. */
    private static boolean isSuch(int own, int kind) {
        return kind == 0 || kind == own + 1 || kind == NARROW + 1 && own != WIDE;
    }

    private int firstNightWith(long key, int nights) {
        for (int i = 0; i < nights && i < passed.length; i++) {
            if (passed[i] == key) {
                return i;
            }
        }
        return NONE;
    }

    /** Lets nights pass in ahead until the two meet: how many it took; NONE: not within the last one. */
    private int firstMeeting(int a, int b, int what, int last) {
        for (int night = 0; night <= last; night++) {
            if (ahead.meets(a, b, what)) {
                return night;
            }
            ahead.passNight(told.law);
        }
        return NONE;
    }

    private static int costOf(int set) {
        int cost = 0;
        for (int house = 0; house < MOST_HOUSES; house++) {
            if ((set >> house & 1) != 0) {
                cost += 1 + house;
            }
        }
        return cost;
    }

    private boolean explainsAllSeen(int law) {
        ahead.startAsTold();
        for (int night = 0; night <= MOST_NIGHTS_A_CALL; night++) {
            if (!explainsNight(night)) {
                return false;
            }
            ahead.passNight(law);
        }
        return true;
    }

    private boolean explainsNight(int night) {
        for (int i = 0; i < seenSoFar; i++) {
            if (seenNight[i] == night && ahead.place[seenHouse[i]] != seenPlot[i]) {
                return false;
            }
        }
        return true;
    }

    /** What the texts told: the ring, its gardens and paths, the houses at NIGHT 0, feuds and the law. */
    private static final class Told {
        int plots;
        int houses;
        int paths;
        int feuds;
        int law;
        int seed;
        /** The plots, by bits, on which the houses stand at NIGHT 0. */
        int taken;
        final int[] crop = new int[MOST_PLOTS];
        final int[] kind = new int[MOST_HOUSES];
        final int[] place = new int[MOST_HOUSES];
        final int[] pathFrom = new int[MOST_PATHS];
        final int[] pathTo = new int[MOST_PATHS];
        final int[] feudOne = new int[MOST_FEUDS];
        final int[] feudOther = new int[MOST_FEUDS];

        Told() {
            layOut(PLOTS_AT_FIRST);
        }

        void layOut(int size) {
            plots = size;
            paths = 0;
            law = AGE;
            seed = 1;
            Arrays.fill(crop, 1);
            removeHouses();
        }

        void removeHouses() {
            houses = 0;
            feuds = 0;
            taken = 0;
        }

        void copyFrom(Told other) {
            plots = other.plots;
            houses = other.houses;
            paths = other.paths;
            feuds = other.feuds;
            law = other.law;
            seed = other.seed;
            taken = other.taken;
            System.arraycopy(other.crop, 0, crop, 0, MOST_PLOTS);
            System.arraycopy(other.kind, 0, kind, 0, MOST_HOUSES);
            System.arraycopy(other.place, 0, place, 0, MOST_HOUSES);
            System.arraycopy(other.pathFrom, 0, pathFrom, 0, MOST_PATHS);
            System.arraycopy(other.pathTo, 0, pathTo, 0, MOST_PATHS);
            System.arraycopy(other.feudOne, 0, feudOne, 0, MOST_FEUDS);
            System.arraycopy(other.feudOther, 0, feudOther, 0, MOST_FEUDS);
        }

        int next(int plot) {
            return plot + 1 < plots ? plot + 1 : 0;
        }

        int previous(int plot) {
            return plot > 0 ? plot - 1 : plots - 1;
        }

        int allPlots() {
            return (1 << plots) - 1;
        }

        /** The plots, by bits, on which one of a kind stands that is at a plot. */
        int ground(int ofKind, int plot) {
            return ofKind == WIDE ? 1 << plot | 1 << next(plot) : 1 << plot;
        }

        /** The plots, by bits, that are next to one of these. */
        int around(int bits) {
            int forth = bits << 1 | bits >> plots - 1;
            int back = bits >> 1 | bits << plots - 1;
            return (forth | back) & allPlots();
        }

        int stuckOnes() {
            int bits = 0;
            for (int house = 0; house < houses; house++) {
                if (kind[house] == STUCK) {
                    bits |= 1 << house;
                }
            }
            return bits;
        }

        /** False, and nothing changes: one of this kind cannot stand there. */
        boolean settle(int newKind, int plot) {
            int more = ground(newKind, plot);
            if (houses >= MOST_HOUSES || (taken & more) != 0 || (taken | more) == allPlots()) {
                return false;
            }
            kind[houses] = newKind;
            place[houses] = plot;
            houses++;
            taken |= more;
            return true;
        }

        boolean addPath(int from, int to) {
            if (paths >= MOST_PATHS || from == to) {
                return false;
            }
            pathFrom[paths] = from;
            pathTo[paths] = to;
            paths++;
            return true;
        }

        boolean addFeud(int one, int other) {
            if (feuds >= MOST_FEUDS || one == other) {
                return false;
            }
            feudOne[feuds] = one;
            feudOther[feuds] = other;
            feuds++;
            return true;
        }

        /** The other end of a path of this plot, NONE if the path is not of this plot. */
        int otherEnd(int path, int plot) {
            if (pathFrom[path] == plot) {
                return pathTo[path];
            }
            return pathTo[path] == plot ? pathFrom[path] : NONE;
        }
    }

    /** How all stands on a night, and how a night passes. */
    private static final class Standing {
        private static final int LOT_FACTOR = 16807, LOT_MODULUS = 65521;

        private final Told told;
        final int[] place = new int[MOST_HOUSES];
        /** The night in which a house rolled last, 1 being the first night; 0: it has not. */
        final int[] rolled = new int[MOST_HOUSES];
        private final int[] ways = new int[MOST_WAYS];
        int taken;
        int nights;
        int turn;
        int x;
        /** Houses, by bits, that are taken as NARROW though STUCK. */
        int mended;

        Standing(Told told) {
            this.told = told;
            startAsTold();
        }

        void startAsTold() {
            System.arraycopy(told.place, 0, place, 0, MOST_HOUSES);
            Arrays.fill(rolled, 0);
            taken = told.taken;
            nights = 0;
            turn = 0;
            x = told.seed;
            mended = 0;
        }

        void copyFrom(Standing other) {
            System.arraycopy(other.place, 0, place, 0, MOST_HOUSES);
            System.arraycopy(other.rolled, 0, rolled, 0, MOST_HOUSES);
            taken = other.taken;
            nights = other.nights;
            turn = other.turn;
            x = other.x;
            mended = other.mended;
        }

        int groundOf(int house) {
            return told.ground(told.kind[house], place[house]);
        }

        boolean isEmpty(int plot) {
            return (taken >> plot & 1) == 0;
        }

        int houseOn(int plot) {
            for (int house = 0; house < told.houses; house++) {
                if ((groundOf(house) >> plot & 1) != 0) {
                    return house;
                }
            }
            return NONE;
        }

        int cropUnder(int house) {
            int sum = told.crop[place[house]];
            return told.kind[house] == WIDE ? sum + told.crop[told.next(place[house])] : sum;
        }

        // ---- ways and rolls

        /** Puts the plots to which a house can roll into a row, in their order: how many there are. */
        int findWays(int house, int[] row) {
            int kind = told.kind[house];
            if (kind == STUCK && (mended >> house & 1) == 0) {
                return 0;
            }
            int forth = told.next(place[house]);
            int previous = told.previous(place[house]);
            int found = 0;
            if (isEmpty(kind == WIDE ? told.next(forth) : forth)) {
                row[found] = forth;
                found++;
            }
            if (isEmpty(previous)) {
                row[found] = previous;
                found++;
            }
            return kind == CART ? findPathWays(place[house], row, found) : found;
        }

        private int findPathWays(int plot, int[] row, int foundAhead) {
            int found = foundAhead;
            for (int path = 0; path < told.paths && found < row.length; path++) {
                int end = told.otherEnd(path, plot);
                if (end != NONE && isEmpty(end)) {
                    row[found] = end;
                    found++;
                }
            }
            return found;
        }

        boolean hasWayTo(int house, int plot) {
            int found = findWays(house, ways);
            for (int i = 0; i < found && i < ways.length; i++) {
                if (ways[i] == plot) {
                    return true;
                }
            }
            return false;
        }

        void moveHouse(int house, int plot) {
            taken &= ~told.ground(told.kind[house], place[house]);
            place[house] = plot;
            taken |= told.ground(told.kind[house], plot);
        }

        // ---- nights

        void passNight(int law) {
            int roll;
            switch (law) {
                case TURN:
                    roll = firstFrom(turn);
                    break;
                case REST:
                    roll = longestRested();
                    break;
                case LOT:
                    roll = drawn();
                    break;
                default:
                    roll = firstFrom(0);
            }
            if (roll == NONE) {
                nights++;
                return;
            }
            passNightOf(roll / A_ROLL, roll % A_ROLL, law);
        }

        void passNightOf(int house, int plot, int law) {
            nights++;
            moveHouse(house, plot);
            rolled[house] = nights;
            if (law == TURN) {
                turn = house + 1 < told.houses ? house + 1 : 0;
            }
        }

        // The next three answer the roll of the night, 20 times the house and the plot; NONE: none can.

        private int firstFrom(int start) {
            int house = start;
            for (int i = 0; i < told.houses; i++) {
                if (findWays(house, ways) > 0) {
                    return A_ROLL * house + ways[0];
                }
                house = house + 1 < told.houses ? house + 1 : 0;
            }
            return NONE;
        }

        private int longestRested() {
            int best = NONE;
            int roll = NONE;
            for (int house = 0; house < told.houses; house++) {
                boolean longer = best == NONE || rolled[house] < rolled[best];
                if (longer && findWays(house, ways) > 0) {
                    best = house;
                    roll = A_ROLL * house + ways[0];
                }
            }
            return roll;
        }

        /** The lot is drawn, and x goes on, if one can roll at all. */
        private int drawn() {
            int all = 0;
            for (int house = 0; house < told.houses; house++) {
                all += findWays(house, ways);
            }
            if (all <= 0) {
                return NONE;
            }
            x = LOT_FACTOR * x % LOT_MODULUS;
            int left = x % all;
            for (int house = 0; house < told.houses; house++) {
                int found = findWays(house, ways);
                if (left >= 0 && left < found && left < ways.length) {
                    return A_ROLL * house + ways[left];
                }
                left -= found;
            }
            return NONE;
        }

        // ---- who is where

        boolean meets(int a, int b, int what) {
            return what == 0 ? areBeside(a, b) : areOpposite(a, b);
        }

        boolean areBeside(int a, int b) {
            return (told.around(groundOf(a)) & groundOf(b)) != 0;
        }

        // In a ring of odd p twice a distance is never p, so that p even need not be asked.
        private boolean areOpposite(int a, int b) {
            return 2 * Math.abs(place[a] - place[b]) == told.plots;
        }

        boolean hasFeudBeside() {
            for (int feud = 0; feud < told.feuds; feud++) {
                if (areBeside(told.feudOne[feud], told.feudOther[feud])) {
                    return true;
                }
            }
            return false;
        }

        // ---- keys

        long placesKey() {
            long key = 0;
            for (int house = 0; house < told.houses; house++) {
                key = key << 4 | place[house];
            }
            return key;
        }

        /** All that decides over the nights to come, by this law. */
        long stateKey(int law) {
            long key = placesKey();
            switch (law) {
                case TURN:
                    return key << 3 | turn;
                case REST:
                    return restKey(key);
                case LOT:
                    return key << 16 | x;
                default:
                    return key;
            }
        }

        private long restKey(long ahead) {
            long key = ahead;
            for (int house = 0; house < told.houses; house++) {
                key = key << 3 | restRank(house);
            }
            return key;
        }

        /** How many have not rolled for longer than a house; those that have not rolled at all are level. */
        private int restRank(int house) {
            int rank = 0;
            for (int other = 0; other < told.houses; other++) {
                if (rolled[other] < rolled[house]) {
                    rank++;
                }
            }
            return rank;
        }
    }

    /** Looks for the first row of rolls, as one likes, by which two come to be beside one another. */
    private static final class Search {
        private static final int SLOT_BITS = 12;
        private static final long SPREAD = 0x9E3779B97F4A7C15L;

        private final Standing standing;
        private final int[][] ways = new int[LAST_NIGHT_OF_NEAREST + 1][MOST_WAYS];
        /** Keys of dead ends, each in one slot where a later one may take its place; 0: none. */
        private final long[] deadEnds = new long[1 << SLOT_BITS];
        private int a;
        private int b;
        /** Of the row found last, 20 times the house and the plot. */
        int firstRoll;

        Search(Standing standing) {
            this.standing = standing;
        }

        void prepare(int one, int other) {
            a = one;
            b = other;
            firstRoll = NONE;
            Arrays.fill(deadEnds, 0L);
        }

        /** Whether just so many nights can bring the two together, if fewer cannot. */
        private static boolean reaches(Search s, int nightsLeft) {
            if (nightsLeft < 1 || nightsLeft > LAST_NIGHT_OF_NEAREST) {
                return false;
            }
            long key = s.standing.placesKey() * 8 + nightsLeft;
            int slot = (int) (key * SPREAD >>> 64 - SLOT_BITS);
            if (s.deadEnds[slot] == key) {
                return false;
            }
            for (int house = 0; house < s.standing.told.houses; house++) {
                if (s.mayHelp(house, nightsLeft) && reachesBy(s, house, nightsLeft)) {
                    return true;
                }
            }
            s.deadEnds[slot] = key;
            return false;
        }

        private static boolean reachesBy(Search s, int house, int nightsLeft) {
            int[] row = s.ways[nightsLeft];
            int from = s.standing.place[house];
            int found = s.standing.findWays(house, row);
            for (int i = 0; i < found && i < row.length; i++) {
                s.standing.moveHouse(house, row[i]);
                boolean good = nightsLeft == 1 ? s.standing.areBeside(s.a, s.b) : reaches(s, nightsLeft - 1);
                s.standing.moveHouse(house, from);
                if (good) {
                    s.firstRoll = A_ROLL * house + row[i];
                    return true;
                }
            }
            return false;
        }

        // The last roll is one of the two's own: no other one can bring them together.
        private boolean mayHelp(int house, int nightsLeft) {
            return nightsLeft > 1 || house == a || house == b;
        }
    }

    /** THE TEXT: its bytes, and how they are read. */
    private static final class Text {
        private static final int BLANK = 32, SEMICOLON = 59;
        private static final int SIGN = 0, LETTER = 1, DIGIT = 2;
        private static final int FEW_DIGITS = 2, SEED_DIGITS = 4;

        private final int[] bytes = new int[MOST_BYTES];
        int length;
        /** How many lines were read last. */
        int lines;
        private int tokenBegin;
        private int tokenEnd;

        /** False, and nothing changes: there is no room for so many. */
        boolean append(long more, int n) {
            if (n > MOST_BYTES - length) {
                return false;
            }
            for (int i = 0; i < n; i++) {
                bytes[length + i] = (int) (more >> 8 * i & 255);
            }
            length += n;
            return true;
        }

        /** Does the lines upon what was told, up to the first fault: its place, or NONE. */
        int readInto(Told told) {
            tokenEnd = 0;
            for (lines = 1; lines <= MOST_LINES; lines++) {
                stepToToken();
                if (!readLine(told)) {
                    return tokenBegin;
                }
                stepToToken();
                if (tokenBegin >= length) {
                    return NONE;
                }
                if (bytes[tokenBegin] != SEMICOLON) {
                    return tokenBegin;
                }
            }
            return tokenBegin;
        }

        /** Does a line that begins at this token; false: this token, or the one stepped to, is a fault. */
        private boolean readLine(Told told) {
            if (isWord("green")) {
                return readGreen(told);
            }
            if (isWord("crop")) {
                return readCrop(told);
            }
            int kind = kindHere();
            if (kind != NONE) {
                return readHouse(told, kind);
            }
            if (isWord("path")) {
                return readPath(told);
            }
            if (isWord("feud")) {
                return readFeud(told);
            }
            if (isWord("lot")) {
                return readLot(told);
            }
            if (isWord("clear")) {
                told.removeHouses();
                return true;
            }
            return readPlainLaw(told);
        }

        private boolean readGreen(Told told) {
            int size = readNumber(FEWEST_PLOTS, MOST_PLOTS, FEW_DIGITS);
            if (size == NONE) {
                return false;
            }
            told.layOut(size);
            return true;
        }

        private boolean readCrop(Told told) {
            int plot = readNumber(0, told.plots - 1, FEW_DIGITS);
            if (plot == NONE) {
                return false;
            }
            int crop = readNumber(0, MOST_CROP, FEW_DIGITS);
            if (crop == NONE) {
                return false;
            }
            told.crop[plot] = crop;
            return true;
        }

        private boolean readHouse(Told told, int kind) {
            if (told.houses >= MOST_HOUSES) {
                return false;
            }
            int plot = readNumber(0, told.plots - 1, FEW_DIGITS);
            return plot != NONE && told.settle(kind, plot);
        }

        private boolean readPath(Told told) {
            if (told.paths >= MOST_PATHS) {
                return false;
            }
            int from = readNumber(0, told.plots - 1, FEW_DIGITS);
            if (from == NONE) {
                return false;
            }
            int to = readNumber(0, told.plots - 1, FEW_DIGITS);
            return to != NONE && told.addPath(from, to);
        }

        private boolean readFeud(Told told) {
            if (told.feuds >= MOST_FEUDS) {
                return false;
            }
            int one = readNumber(0, told.houses - 1, FEW_DIGITS);
            if (one == NONE) {
                return false;
            }
            int other = readNumber(0, told.houses - 1, FEW_DIGITS);
            return other != NONE && told.addFeud(one, other);
        }

        private boolean readLot(Told told) {
            int seed = readNumber(1, MOST_SEED, SEED_DIGITS);
            if (seed == NONE) {
                return false;
            }
            told.law = LOT;
            told.seed = seed;
            return true;
        }

        private boolean readPlainLaw(Told told) {
            int law = plainLawHere();
            if (law == NONE) {
                return false;
            }
            told.law = law;
            return true;
        }

        private int kindHere() {
            if (isWord("narrow")) {
                return NARROW;
            }
            if (isWord("cart")) {
                return CART;
            }
            if (isWord("stuck")) {
                return STUCK;
            }
            return isWord("wide") ? WIDE : NONE;
        }

        private int plainLawHere() {
            if (isWord("age")) {
                return AGE;
            }
            if (isWord("turn")) {
                return TURN;
            }
            return isWord("rest") ? REST : NONE;
        }

        // ---- tokens

        /** Steps to the next token; at the end to an empty one that begins at the length. */
        private void stepToToken() {
            int at = tokenEnd;
            while (at < length && bytes[at] == BLANK) {
                at++;
            }
            tokenBegin = at;
            if (at < length) {
                int sort = sortOf(bytes[at]);
                at++;
                while (at < length && sort != SIGN && sortOf(bytes[at]) == sort) {
                    at++;
                }
            }
            tokenEnd = at;
        }

        private static int sortOf(int sign) {
            if (sign >= 'a' && sign <= 'z') {
                return LETTER;
            }
            return sign >= '0' && sign <= '9' ? DIGIT : SIGN;
        }

        private boolean isWord(String word) {
            if (tokenEnd - tokenBegin != word.length()) {
                return false;
            }
            for (int i = 0; i < word.length(); i++) {
                if (bytes[tokenBegin + i] != word.charAt(i)) {
                    return false;
                }
            }
            return true;
        }

        /** Steps to the next token and reads a number there; NONE: it is none, or not within its bounds. */
        private int readNumber(int least, int most, int mostDigits) {
            stepToToken();
            int digits = tokenEnd - tokenBegin;
            if (digits < 1 || digits > mostDigits || sortOf(bytes[tokenBegin]) != DIGIT) {
                return NONE;
            }
            int number = 0;
            for (int i = tokenBegin; i < tokenEnd; i++) {
                number = 10 * number + bytes[i] - '0';
            }
            return number < least || number > most ? NONE : number;
        }
    }
}
