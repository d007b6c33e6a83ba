import java.util.ArrayDeque;
import java.util.ArrayList;
import java.util.List;
import java.util.regex.Pattern;

/** The document once more, as plainly as the Java library allows, to be compared with GossipHead. */
final class Model {
    private static final String NUMBER = "(?:0|[1-9][0-9]?)";
    private static final String PART = "(?:p" + NUMBER + ":[0-5]|f" + NUMBER
        + ":[0-5]\\*(?:" + NUMBER + "|[1-4][0-9][0-9]|500))";
    private static final Pattern BOARD = Pattern.compile(PART + "(?:;" + PART + ")*");
    /** Each beginning of a board becomes one by one of these. */
    private static final String[] ENDINGS = {
        "", "p0:0", "0:0", "0:0*0", ":0", ":0*0", "0", "0*0", "*0"};

    private static final class Feeder {
        int x;
        int kind;
        int parts;
        int miss;
        int turn;
        int tries;
        int misses;
        int seen;
        int[] trust = {50, 50, 50, 50};

        Feeder copy() {
            Feeder c = new Feeder();
            c.x = x;
            c.kind = kind;
            c.parts = parts;
            c.miss = miss;
            c.turn = turn;
            c.tries = tries;
            c.misses = misses;
            c.seen = seen;
            c.trust = trust.clone();
            return c;
        }

        void less(int nozzle, int by) {
            trust[nozzle] = Math.max(0, trust[nozzle] - by);
        }
    }

    private static final class Place {
        int x;
        int kind;
        int status = 0;
        int by = -1;
        int from = -1;

        Place copy() {
            Place c = new Place();
            c.x = x;
            c.kind = kind;
            c.status = status;
            c.by = by;
            c.from = from;
            return c;
        }

        void empty() {
            status = 0;
            by = -1;
            from = -1;
        }
    }

    private static final class World {
        List<Feeder> feeders = new ArrayList<>();
        List<Place> places = new ArrayList<>();
        int[][] nozzles = {{63, 0, 0, 0, 0}, {63, 0, 0, 0, 0}, {63, 0, 0, 0, 0}, {63, 0, 0, 0, 0}};
        int[] settings = {2, 20, 5, 80, 50};
        int time = 0;
        long seed = 1;
        int head = 0;
        int tours = 0;
        int misses = 0;
        int tries = 0;
        int thrown = 0;
        int found = 0;

        World copy() {
            World c = new World();
            for (Feeder f : feeders) {
                c.feeders.add(f.copy());
            }
            for (Place p : places) {
                c.places.add(p.copy());
            }
            for (int n = 0; n < 4; n++) {
                c.nozzles[n] = nozzles[n].clone();
            }
            c.settings = settings.clone();
            c.time = time;
            c.seed = seed;
            c.head = head;
            c.tours = tours;
            c.misses = misses;
            c.tries = tries;
            c.thrown = thrown;
            c.found = found;
            return c;
        }

        long draw(long m) {
            seed = (1103515245L * seed + 12345L) % 2147483648L;
            return seed / 65536L % m;
        }

        void go(int x) {
            time += x > head ? x - head : head - x;
            head = x;
        }

        long having(int status) {
            return places.stream().filter(p -> p.status == status).count();
        }

        int favorite(int nozzle, int kind) {
            int best = -1;
            for (int f = feeders.size() - 1; f >= 0; f--) {
                Feeder one = feeders.get(f);
                if (one.kind != kind || one.parts == 0) {
                    continue;
                }
                if (best < 0 || rank(one, nozzle) >= rank(feeders.get(best), nozzle)) {
                    best = f;
                }
            }
            return best;
        }

        int rank(Feeder f, int nozzle) {
            return f.trust[nozzle] * 1000 - Math.abs(f.x - head);
        }

        int[] aims() {
            int[] aims = {-1, -1, -1, -1};
            for (int n = 0; n < 4; n++) {
                for (int p = places.size() - 1; p >= 0; p--) {
                    Place one = places.get(p);
                    boolean taken = false;
                    for (int m = 0; m < n; m++) {
                        taken |= aims[m] == p;
                    }
                    boolean stocked = feeders.stream().anyMatch(f -> f.kind == one.kind && f.parts > 0);
                    if (one.status == 0 && !taken && (nozzles[n][0] & 1 << one.kind) != 0 && stocked) {
                        aims[n] = p;
                    }
                }
            }
            return aims;
        }

        int tour() {
            int[] aims = aims();
            Feeder[] source = new Feeder[4];
            boolean[] turned = new boolean[4];
            for (int n = 0; n < 4; n++) {
                int left = aims[n] < 0 ? 0 : 1 + settings[0];
                while (left > 0 && source[n] == null) {
                    int f = favorite(n, places.get(aims[n]).kind);
                    left = f < 0 ? 0 : left - 1;
                    if (f >= 0) {
                        turned[n] = pick(n, feeders.get(f), source);
                    }
                }
            }
            for (int n = 0; n < 4; n++) {
                if (source[n] != null && draw(100) < settings[3] && turned[n]) {
                    source[n].seen++;
                    source[n].less(n, settings[1]);
                    nozzles[n][4]++;
                    thrown++;
                    source[n] = null;
                }
            }
            int placed = 0;
            for (int n = 0; n < 4; n++) {
                if (source[n] != null) {
                    Place p = places.get(aims[n]);
                    go(p.x);
                    time++;
                    p.status = turned[n] ? 2 : 1;
                    p.by = n;
                    p.from = feeders.indexOf(source[n]);
                    nozzles[n][3]++;
                    placed++;
                }
            }
            for (int n = 1; n < 4; n++) {
                for (Feeder f : feeders) {
                    int m = (f.trust[n] - f.trust[n - 1]) * settings[4] / 200;
                    f.trust[n - 1] += m;
                    f.trust[n] -= m;
                }
            }
            tours++;
            return placed;
        }

        boolean pick(int n, Feeder f, Feeder[] source) {
            go(f.x);
            time += 2;
            f.tries++;
            tries++;
            nozzles[n][1]++;
            if (draw(100) < f.miss) {
                f.misses++;
                misses++;
                nozzles[n][2]++;
                f.less(n, settings[1]);
                return false;
            }
            f.parts--;
            f.trust[n] = Math.min(100, f.trust[n] + settings[2]);
            source[n] = f;
            return draw(100) < f.turn;
        }

        int inspect() {
            int wrong = 0;
            for (Place p : places) {
                if (p.status == 2) {
                    feeders.get(p.from).less(p.by, settings[1]);
                    p.empty();
                    wrong++;
                }
            }
            time += 10;
            found += wrong;
            return wrong;
        }
    }

    private World w = new World();
    private final ArrayDeque<World> saved = new ArrayDeque<>();
    private String buffer = "";

    private void save() {
        saved.addLast(w.copy());
        if (saved.size() > 6) {
            saved.removeFirst();
        }
    }

    private static void need(boolean holds, RuntimeException otherwise) {
        if (!holds) {
            throw otherwise;
        }
    }

    private static void argument(boolean holds) {
        need(holds, new IllegalArgumentException());
    }

    private static void state(boolean holds) {
        need(holds, new IllegalStateException());
    }

    private static void index(int index, int size) {
        need(index >= 0 && index < size, new IndexOutOfBoundsException());
    }

    private static boolean in(int value, int least, int greatest) {
        return least <= value && value <= greatest;
    }

    int addFeeder(int x, int kind, int parts, int miss, int turn) {
        argument(in(x, 0, 99) && in(kind, 0, 5) && in(parts, 0, 500));
        argument(in(miss, 0, 100) && in(turn, 0, 100));
        state(w.feeders.size() < 8);
        save();
        Feeder f = new Feeder();
        f.x = x;
        f.kind = kind;
        f.parts = parts;
        f.miss = miss;
        f.turn = turn;
        w.feeders.add(f);
        return w.feeders.size() - 1;
    }

    int addPlace(int x, int kind) {
        argument(in(x, 0, 99) && in(kind, 0, 5));
        state(w.places.size() < 24);
        save();
        Place p = new Place();
        p.x = x;
        p.kind = kind;
        w.places.add(p);
        return w.places.size() - 1;
    }

    int fill(int feeder, int parts) {
        index(feeder, w.feeders.size());
        argument(in(parts, 1, 500));
        state(w.feeders.get(feeder).parts + parts <= 500);
        save();
        return w.feeders.get(feeder).parts += parts;
    }

    int repair(int feeder, int miss, int turn) {
        index(feeder, w.feeders.size());
        argument(in(miss, 0, 100) && in(turn, 0, 100));
        save();
        Feeder f = w.feeders.get(feeder);
        int before = f.miss;
        f.miss = miss;
        f.turn = turn;
        return before;
    }

    int fit(int nozzle, int kinds) {
        index(nozzle, 4);
        argument(in(kinds, 0, 63));
        save();
        int before = w.nozzles[nozzle][0];
        w.nozzles[nozzle][0] = kinds;
        return before;
    }

    int clear() {
        save();
        int right = (int) w.having(1);
        w.places.forEach(Place::empty);
        return right;
    }

    int set(int setting, int value) {
        index(setting, 5);
        argument(in(value, 0, setting == 0 ? 5 : setting < 3 ? 50 : 100));
        save();
        int before = w.settings[setting];
        w.settings[setting] = value;
        return before;
    }

    int tour(int times) {
        argument(in(times, 1, 20));
        save();
        int placed = 0;
        for (int i = 0; i < times; i++) {
            placed += w.tour();
        }
        return placed;
    }

    int inspect() {
        save();
        return w.inspect();
    }

    int append(int code) {
        argument(in(code, 33, 126));
        state(buffer.length() < 60);
        buffer += (char) code;
        return buffer.length();
    }

    int clearBuffer() {
        int before = buffer.length();
        buffer = "";
        return before;
    }

    private static boolean begins(String text) {
        for (String ending : ENDINGS) {
            if (BOARD.matcher(text + ending).matches()) {
                return true;
            }
        }
        return false;
    }

    int firstError() {
        int length = 0;
        while (length < buffer.length() && begins(buffer.substring(0, length + 1))) {
            length++;
        }
        return length;
    }

    int read() {
        argument(BOARD.matcher(buffer).matches());
        World before = w.copy();
        ArrayDeque<World> savedBefore = new ArrayDeque<>(saved);
        int added = 0;
        try {
            for (String part : buffer.split(";")) {
                String[] numbers = part.substring(1).split("[:*]");
                int x = Integer.parseInt(numbers[0]);
                int kind = Integer.parseInt(numbers[1]);
                if (part.charAt(0) == 'p') {
                    addPlace(x, kind);
                } else {
                    addFeeder(x, kind, Integer.parseInt(numbers[2]), 0, 0);
                }
                added++;
            }
        } catch (IllegalStateException full) {
            // What is added so far stays.
        }
        saved.clear();
        saved.addAll(savedBefore);
        World after = w;
        w = before;
        save();
        w = after;
        buffer = "";
        return added;
    }

    int undo() {
        state(!saved.isEmpty());
        w = saved.removeLast();
        return saved.size();
    }

    int feeder(int feeder, int what) {
        index(feeder, w.feeders.size());
        argument(in(what, 0, 8));
        Feeder f = w.feeders.get(feeder);
        int sum = f.trust[0] + f.trust[1] + f.trust[2] + f.trust[3];
        return new int[] {f.x, f.kind, f.parts, f.miss, f.turn, f.tries, f.misses, f.seen, sum}[what];
    }

    int place(int place, int what) {
        index(place, w.places.size());
        argument(in(what, 0, 4));
        Place p = w.places.get(place);
        return new int[] {p.x, p.kind, p.status, p.by, p.from}[what];
    }

    int nozzle(int nozzle, int what) {
        index(nozzle, 4);
        argument(in(what, 0, 4));
        return w.nozzles[nozzle][what];
    }

    int trust(int nozzle, int feeder) {
        index(nozzle, 4);
        index(feeder, w.feeders.size());
        return w.feeders.get(feeder).trust[nozzle];
    }

    int count(int what) {
        argument(in(what, 0, 13));
        long parts = w.feeders.stream().mapToInt(f -> f.parts).sum();
        return (int) new long[] {w.feeders.size(), w.places.size(), w.time, w.seed, w.head, w.tours,
            w.having(0), w.having(1), w.having(2), w.misses, w.thrown, w.found, parts,
            saved.size()}[what];
    }

    int setting(int setting) {
        index(setting, 5);
        return w.settings[setting];
    }

    int ifToured(int times, int what) {
        argument(in(times, 1, 20) && in(what, 0, 3));
        World other = w.copy();
        int placed = 0;
        for (int i = 0; i < times; i++) {
            placed += other.tour();
        }
        long[] told = {placed, other.misses - w.misses, other.time - w.time, other.having(1)};
        return (int) told[what];
    }

    int choice(int nozzle, int kind) {
        index(nozzle, 4);
        argument(in(kind, 0, 5));
        return w.favorite(nozzle, kind);
    }

    int aim(int nozzle) {
        index(nozzle, 4);
        return w.aims()[nozzle];
    }

    int needed() {
        World other = w.copy();
        int tours = 0;
        while (other.having(1) < other.places.size()) {
            if (tours == 40) {
                return -1;
            }
            other.tour();
            other.inspect();
            tours++;
        }
        return tours;
    }

    int rumored() {
        int found = -1;
        int most = -1;
        for (Feeder f : w.feeders) {
            int[] sorted = f.trust.clone();
            java.util.Arrays.sort(sorted);
            if (sorted[3] - sorted[0] > most) {
                most = sorted[3] - sorted[0];
                found = w.feeders.indexOf(f);
            }
        }
        return found;
    }

    double missShare() {
        return w.tries == 0 ? 0.0 : (double) w.misses / w.tries;
    }

    long digest() {
        List<Long> values = new ArrayList<>();
        for (int i = 0; i <= 13; i++) {
            values.add((long) count(i));
        }
        for (int setting : w.settings) {
            values.add((long) setting);
        }
        for (int i = 0; i < w.feeders.size() * 9; i++) {
            values.add((long) feeder(i / 9, i % 9));
        }
        for (int i = 0; i < w.places.size() * 5; i++) {
            values.add((long) place(i / 5, i % 5));
        }
        for (int n = 0; n < 4; n++) {
            for (int i = 0; i < 5; i++) {
                values.add((long) nozzle(n, i));
            }
            for (int i = 0; i < w.feeders.size(); i++) {
                values.add((long) trust(n, i));
            }
            for (int i = 0; i < 6; i++) {
                values.add((long) choice(n, i));
            }
            values.add((long) aim(n));
        }
        for (int i = 0; i < 4; i++) {
            values.add((long) ifToured(3, i));
        }
        values.add((long) needed());
        values.add((long) rumored());
        values.add(Double.doubleToLongBits(missShare()));
        values.add((long) buffer.length());
        buffer.chars().forEach(code -> values.add((long) code));
        long hash = 2467;
        for (long value : values) {
            hash = hash * 31 + value;
        }
        return hash;
    }
}
