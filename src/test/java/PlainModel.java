import java.util.ArrayList;
import java.util.HashMap;
import java.util.HashSet;
import java.util.List;
import java.util.Map;
import java.util.Set;
import java.util.regex.Matcher;
import java.util.regex.Pattern;

/** The document once more, in lists and sets and without regard to speed, to be compared with the class. */
final class PlainModel {
    private static final int NONE = -1, UNKNOWN = -2, OUTSIDE = -3, NOT = -4, FULL = -5;

    /** What is told. */
    private static final class Village {
        int p = 6;
        int law = 0;
        int seed = 1;
        List<Integer> crops = new ArrayList<>(List.of(1, 1, 1, 1, 1, 1));
        List<String> kinds = new ArrayList<>();
        List<Integer> places = new ArrayList<>();
        List<int[]> paths = new ArrayList<>();
        List<int[]> feuds = new ArrayList<>();

        Village copy() {
            Village v = new Village();
            v.p = p;
            v.law = law;
            v.seed = seed;
            v.crops = new ArrayList<>(crops);
            v.kinds = new ArrayList<>(kinds);
            v.places = new ArrayList<>(places);
            v.paths = new ArrayList<>(paths);
            v.feuds = new ArrayList<>(feuds);
            return v;
        }
    }

    /** How all stands: who stands where, who rolled when, whom REST takes next as a queue. */
    private static final class World {
        Village v;
        List<String> kinds;
        List<Integer> places;
        List<Integer> queue = new ArrayList<>();
        Map<Integer, Integer> rolled = new HashMap<>();
        int nights = 0;
        int turn = 0;
        long x;

        World(Village v) {
            this.v = v;
            kinds = new ArrayList<>(v.kinds);
            places = new ArrayList<>(v.places);
            for (int h = 0; h < kinds.size(); h++) {
                queue.add(h);
            }
            x = v.seed;
        }

        World copy() {
            World w = new World(v);
            w.kinds = new ArrayList<>(kinds);
            w.places = new ArrayList<>(places);
            w.queue = new ArrayList<>(queue);
            w.rolled = new HashMap<>(rolled);
            w.nights = nights;
            w.turn = turn;
            w.x = x;
            return w;
        }

        Set<Integer> plotsOf(int h) {
            Set<Integer> s = new HashSet<>();
            s.add(places.get(h));
            if (kinds.get(h).equals("wide")) {
                s.add((places.get(h) + 1) % v.p);
            }
            return s;
        }

        int on(int plot) {
            for (int h = 0; h < kinds.size(); h++) {
                if (plotsOf(h).contains(plot)) {
                    return h;
                }
            }
            return NONE;
        }

        List<Integer> ways(int h) {
            List<Integer> found = new ArrayList<>();
            int q = places.get(h);
            if (kinds.get(h).equals("stuck")) {
                return found;
            }
            int width = kinds.get(h).equals("wide") ? 2 : 1;
            if (on((q + width) % v.p) == NONE) {
                found.add((q + 1) % v.p);
            }
            if (on((q + v.p - 1) % v.p) == NONE) {
                found.add((q + v.p - 1) % v.p);
            }
            if (kinds.get(h).equals("cart")) {
                for (int[] path : v.paths) {
                    if (path[0] == q && on(path[1]) == NONE) {
                        found.add(path[1]);
                    } else if (path[1] == q && on(path[0]) == NONE) {
                        found.add(path[0]);
                    }
                }
            }
            return found;
        }

        void shift(int h, int plot, int law) {
            nights++;
            places.set(h, plot);
            rolled.put(h, nights);
            queue.remove(Integer.valueOf(h));
            queue.add(h);
            if (law == 1) {
                turn = (h + 1) % kinds.size();
            }
        }

        void night(int law) {
            List<int[]> all = new ArrayList<>();
            List<Integer> order = new ArrayList<>();
            for (int h = 0; h < kinds.size(); h++) {
                order.add(law == 1 ? (turn + h) % kinds.size() : law == 2 ? queue.get(h) : h);
                for (int plot : ways(h)) {
                    all.add(new int[] {h, plot});
                }
            }
            if (all.isEmpty()) {
                nights++;
                return;
            }
            if (law == 3) {
                x = 16807 * x % 65521;
                int[] way = all.get((int) (x % all.size()));
                shift(way[0], way[1], law);
                return;
            }
            for (int h : order) {
                if (!ways(h).isEmpty()) {
                    shift(h, ways(h).get(0), law);
                    return;
                }
            }
        }

        /** Whether no plot has two and one at least is empty. */
        boolean stands() {
            Set<Integer> all = new HashSet<>();
            int sum = 0;
            for (int h = 0; h < kinds.size(); h++) {
                all.addAll(plotsOf(h));
                sum += plotsOf(h).size();
            }
            return all.size() == sum && sum < v.p;
        }

        boolean beside(int a, int b) {
            for (int i : plotsOf(a)) {
                if (plotsOf(b).contains((i + 1) % v.p) || plotsOf(b).contains((i + v.p - 1) % v.p)) {
                    return true;
                }
            }
            return false;
        }

        boolean meets(int a, int b, int what) {
            return what == 0 ? beside(a, b) : v.p % 2 == 0 && (places.get(a) + v.p / 2) % v.p == places.get(b);
        }

        String key() {
            String rest = v.law == 1 ? "t" + turn : v.law == 2 ? "q" + rested() : v.law == 3 ? "x" + x : "";
            return places + rest;
        }

        /** Of each two whether one has not rolled for longer than the other one, or both for equally long. */
        String rested() {
            StringBuilder signs = new StringBuilder();
            for (int a = 0; a < kinds.size(); a++) {
                for (int b = 0; b < a; b++) {
                    boolean level = !rolled.containsKey(a) && !rolled.containsKey(b);
                    signs.append(level ? '=' : queue.indexOf(a) < queue.indexOf(b) ? '>' : '<');
                }
            }
            return signs.toString();
        }
    }

    private Village v = new Village();
    private World now = new World(v);
    private final World[] kept = new World[2];
    private final List<int[]> seen = new ArrayList<>();
    private StringBuilder text = new StringBuilder();

    // ---- what is told

    int write(long bytes, int n) {
        if (n < 1 || n > 8) {
            return OUTSIDE;
        }
        if (text.length() + n > 200) {
            return FULL;
        }
        for (int i = 0; i < n; i++) {
            text.append((char) (bytes >> 8 * i & 255));
        }
        return text.length();
    }

    int erase() {
        int had = text.length();
        text = new StringBuilder();
        return had;
    }

    int fault() {
        return read(v.copy());
    }

    int green() {
        Village then = v.copy();
        if (read(then) != NONE) {
            return NOT;
        }
        int lines = text.toString().split(";", -1).length;
        v = then;
        now = new World(v);
        kept[0] = null;
        kept[1] = null;
        seen.clear();
        text = new StringBuilder();
        return lines;
    }

    private List<String> tokens;
    private List<Integer> begins;
    private int at;

    private int read(Village then) {
        tokens = new ArrayList<>();
        begins = new ArrayList<>();
        Matcher m = Pattern.compile("[a-z]+|[0-9]+|[^ ]", Pattern.DOTALL).matcher(text);
        while (m.find()) {
            tokens.add(m.group());
            begins.add(m.start());
        }
        tokens.add("");
        begins.add(text.length());
        at = 0;
        for (int line = 1; true; line++) {
            if (!line(then)) {
                return begins.get(at);
            }
            if (tokens.get(at).isEmpty()) {
                return NONE;
            }
            if (!tokens.get(at).equals(";") || line == 12) {
                return begins.get(at);
            }
            at++;
        }
    }

    /** Reads a line; false with at on the token that cannot stand there. */
    private boolean line(Village t) {
        String word = tokens.get(at);
        int p = t.p;
        int houses = t.kinds.size();
        boolean isHouse = List.of("narrow", "cart", "stuck", "wide").contains(word);
        boolean full = isHouse && houses == 8 || word.equals("path") && t.paths.size() == 6
            || word.equals("feud") && t.feuds.size() == 6;
        if (full || !List.of("green", "crop", "narrow", "cart", "stuck", "wide", "path", "feud", "age", "turn",
            "rest", "lot", "clear").contains(word)) {
            return false;
        }
        at++;
        int law = List.of("age", "turn", "rest").indexOf(word);
        if (law >= 0) {
            t.law = law;
            return true;
        }
        if (word.equals("clear")) {
            t.kinds.clear();
            t.places.clear();
            t.feuds.clear();
            return true;
        }
        if (word.equals("lot")) {
            if (!number(1, 9999, 4)) {
                return false;
            }
            t.law = 3;
            t.seed = value(at++);
            return true;
        }
        if (word.equals("green")) {
            if (!number(3, 12, 2)) {
                return false;
            }
            t.p = value(at++);
            t.law = 0;
            t.seed = 1;
            t.crops = new ArrayList<>();
            for (int i = 0; i < t.p; i++) {
                t.crops.add(1);
            }
            t.kinds.clear();
            t.places.clear();
            t.feuds.clear();
            t.paths.clear();
            return true;
        }
        int most = word.equals("feud") ? houses - 1 : p - 1;
        if (!number(0, most, 2)) {
            return false;
        }
        int first = value(at);
        if (isHouse) {
            t.kinds.add(word);
            t.places.add(first);
            boolean good = new World(t).stands();
            if (good) {
                at++;
            }
            return good;
        }
        at++;
        if (!number(0, word.equals("crop") ? 9 : most, 2)) {
            return false;
        }
        int second = value(at);
        if (word.equals("crop")) {
            t.crops.set(first, second);
        } else if (first == second) {
            return false;
        } else if (word.equals("path")) {
            t.paths.add(new int[] {first, second});
        } else {
            t.feuds.add(new int[] {first, second});
        }
        at++;
        return true;
    }

    private boolean number(int least, int most, int digits) {
        String s = tokens.get(at);
        return s.matches("[0-9]{1," + digits + "}") && value(at) >= least && value(at) <= most;
    }

    private int value(int place) {
        return Integer.parseInt(tokens.get(place));
    }

    // ---- what is told, asked

    private boolean house(int h) {
        return h >= 0 && h < v.kinds.size();
    }

    private boolean plot(int q) {
        return q >= 0 && q < v.p;
    }

    int plot(int plot, int what) {
        if (!plot(plot)) {
            return UNKNOWN;
        }
        return what == 0 ? now.on(plot) : what == 1 ? v.crops.get(plot) : OUTSIDE;
    }

    private static int kindNumber(String kind) {
        return List.of("narrow", "cart", "stuck", "wide").indexOf(kind);
    }

    int house(int house, int what) {
        if (!house(house)) {
            return UNKNOWN;
        }
        if (what == 0) {
            return kindNumber(v.kinds.get(house));
        }
        if (what == 1) {
            return now.places.get(house);
        }
        if (what != 2) {
            return OUTSIDE;
        }
        return now.rolled.containsKey(house) ? now.nights - now.rolled.get(house) : NONE;
    }

    int as(int house, int kind) {
        if (!house(house)) {
            return UNKNOWN;
        }
        if (kind < 0 || kind > 4) {
            return OUTSIDE;
        }
        List<List<Integer>> over = List.of(List.of(0, 1), List.of(0, 1, 2), List.of(0, 1, 3), List.of(0, 4));
        return over.get(house(house, 0)).contains(kind) ? now.ways(house).size() : NOT;
    }

    // ---- nights

    int can(int house, int i) {
        if (!house(house)) {
            return UNKNOWN;
        }
        if (i < 0) {
            return OUTSIDE;
        }
        return i < now.ways(house).size() ? now.ways(house).get(i) : NONE;
    }

    int go(int n) {
        if (n < 1 || n > 99) {
            return OUTSIDE;
        }
        if (now.nights + n > 9999) {
            return FULL;
        }
        now = after(now, n);
        return now.nights;
    }

    private World after(World w, int nights) {
        World then = w.copy();
        for (int i = 0; i < nights; i++) {
            then.night(v.law);
        }
        return then;
    }

    int roll(int house, int plot) {
        if (!house(house) || !plot(plot)) {
            return UNKNOWN;
        }
        if (!now.ways(house).contains(plot)) {
            return NOT;
        }
        if (now.nights == 9999) {
            return FULL;
        }
        now.shift(house, plot, v.law);
        return now.nights;
    }

    int keep(int k) {
        if (k != 0 && k != 1) {
            return UNKNOWN;
        }
        kept[k] = now.copy();
        return now.nights;
    }

    int back(int k) {
        if (k != 0 && k != 1) {
            return UNKNOWN;
        }
        if (kept[k] == null) {
            return NOT;
        }
        now = kept[k].copy();
        return now.nights;
    }

    // ---- foretold

    int later(int house, int t) {
        if (!house(house)) {
            return UNKNOWN;
        }
        return t < 0 || t > 99 ? OUTSIDE : after(now, t).places.get(house);
    }

    int round(int what) {
        if (what != 0 && what != 1) {
            return OUTSIDE;
        }
        Map<String, Integer> met = new HashMap<>();
        World w = now.copy();
        for (int night = 0; night <= 500; night++) {
            Integer first = met.putIfAbsent(w.key(), night);
            if (first != null) {
                return what == 0 ? first : night - first;
            }
            w.night(v.law);
        }
        return NONE;
    }

    private int refuse(int a, int b, int what) {
        if (!house(a) || !house(b)) {
            return UNKNOWN;
        }
        return what != 0 && what != 1 || a == b ? OUTSIDE : 0;
    }

    int touch(int a, int b, int what) {
        int no = refuse(a, b, what);
        return no != 0 ? no : now.meets(a, b, what) ? 1 : 0;
    }

    int when(int a, int b, int what) {
        int no = refuse(a, b, what);
        if (no != 0) {
            return no;
        }
        World w = now.copy();
        for (int n = 0; n < 400; n++) {
            if (w.meets(a, b, what)) {
                return n;
            }
            w.night(v.law);
        }
        return NONE;
    }

    int often(int a, int b, int what, int days) {
        int no = refuse(a, b, what);
        if (no != 0) {
            return no;
        }
        if (days < 1 || days > 99) {
            return OUTSIDE;
        }
        int sum = 0;
        for (World w : days(days)) {
            sum += w.meets(a, b, what) ? 1 : 0;
        }
        return sum;
    }

    private List<World> days(int days) {
        List<World> row = new ArrayList<>();
        row.add(now.copy());
        while (row.size() < days) {
            row.add(after(row.get(row.size() - 1), 1));
        }
        return row;
    }

    int brings(int house, int days) {
        if (!house(house)) {
            return UNKNOWN;
        }
        if (days < 1 || days > 99) {
            return OUTSIDE;
        }
        int sum = 0;
        for (World w : days(days)) {
            for (int plot : w.plotsOf(house)) {
                sum += v.crops.get(plot);
            }
        }
        return sum;
    }

    int feuding(int days) {
        if (days < 1 || days > 99) {
            return OUTSIDE;
        }
        int sum = 0;
        for (World w : days(days)) {
            boolean any = false;
            for (int[] feud : v.feuds) {
                any |= w.beside(feud[0], feud[1]);
            }
            sum += any ? 1 : 0;
        }
        return sum;
    }

    /** Breadth first, each state with the first roll of the first row that leads to it. */
    int nearest(int a, int b, int what) {
        int no = refuse(a, b, what);
        if (no != 0) {
            return no;
        }
        List<World> level = List.of(now.copy());
        List<Integer> firsts = List.of(NONE);
        Set<String> met = new HashSet<>();
        for (int nights = 0; nights <= 5; nights++) {
            List<World> next = new ArrayList<>();
            List<Integer> nextFirsts = new ArrayList<>();
            for (int i = 0; i < level.size(); i++) {
                World w = level.get(i);
                if (w.beside(a, b)) {
                    return what == 0 ? nights : firsts.get(i);
                }
                for (int h = 0; h < v.kinds.size(); h++) {
                    for (int plot : w.ways(h)) {
                        World then = w.copy();
                        then.shift(h, plot, 0);
                        if (met.add(then.places.toString())) {
                            next.add(then);
                            nextFirsts.add(nights == 0 ? 20 * h + plot : firsts.get(i));
                        }
                    }
                }
            }
            level = next;
            firsts = nextFirsts;
        }
        return NONE;
    }

    int mends(int a, int b, int nights, int what) {
        int no = refuse(a, b, what);
        if (no != 0) {
            return no;
        }
        if (nights < 0 || nights > 99) {
            return OUTSIDE;
        }
        int best = NONE;
        for (int set = 0; set < 1 << v.kinds.size(); set++) {
            World w = now.copy();
            boolean good = true;
            for (int h = 0; h < v.kinds.size(); h++) {
                if ((set >> h & 1) == 1) {
                    good &= v.kinds.get(h).equals("stuck");
                    w.kinds.set(h, "narrow");
                }
            }
            if (good && (best == NONE || cost(set) < cost(best)) && meetsWithin(w, a, b, nights)) {
                best = set;
            }
        }
        return what == 1 || best == NONE ? best : cost(best);
    }

    private static int cost(int set) {
        int sum = 0;
        for (int h = 0; h < 8; h++) {
            sum += (set >> h & 1) * (h + 1);
        }
        return sum;
    }

    private boolean meetsWithin(World w, int a, int b, int nights) {
        for (int n = 0; n <= nights; n++) {
            if (w.beside(a, b)) {
                return true;
            }
            w.night(v.law);
        }
        return false;
    }

    // ---- what was seen

    int seen(int house, int plot, int t) {
        if (!house(house) || !plot(plot)) {
            return UNKNOWN;
        }
        if (t < 0 || t > 99) {
            return OUTSIDE;
        }
        if (seen.size() == 8) {
            return FULL;
        }
        seen.add(new int[] {house, plot, t});
        return seen.size();
    }

    int forget() {
        int had = seen.size();
        seen.clear();
        return had;
    }

    int laws() {
        int bits = 0;
        for (int law = 0; law < 3; law++) {
            boolean good = true;
            for (int[] s : seen) {
                World w = new World(v);
                for (int n = 0; n < s[2]; n++) {
                    w.night(law);
                }
                good &= w.places.get(s[0]) == s[1];
            }
            bits += good ? 1 << law : 0;
        }
        return bits;
    }

    int count(int what) {
        int empty = 0;
        for (int q = 0; q < v.p; q++) {
            empty += now.on(q) == NONE ? 1 << q : 0;
        }
        int[] row = {v.p, v.kinds.size(), v.paths.size(), v.feuds.size(), v.law, now.nights,
            v.law == 1 ? now.turn : NONE, v.law == 3 ? (int) now.x : NONE, seen.size(), empty, text.length()};
        return what < 0 || what >= row.length ? OUTSIDE : row[what];
    }
}
