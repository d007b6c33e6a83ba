/** A placing head whose nozzles gossip about bad feeders. */
public final class GossipHead {
    public static final int NONE = -1;

    private static final int NOZZLES = 4;
    private static final int MOST_FEEDERS = 8;
    private static final int MOST_PLACES = 24;
    private static final int MOST_PARTS = 500;
    private static final int MOST_CHARACTERS = 60;
    private static final int MOST_SAVED = 6;
    private static final int MOST_TIMES = 20;
    private static final int MOST_NEEDED = 40;
    private static final int FARTHEST = 99;
    private static final int LAST_KIND = 5;
    private static final int ALL_KINDS = 63;
    private static final int ALL_PERCENT = 100;
    private static final int FIRST_TRUST = 50;
    private static final int PICK_TIME = 2;
    private static final int PLACE_TIME = 1;
    private static final int INSPECTION_TIME = 10;

    // The columns of the tables are numbered as the properties that the face tells.
    private static final int X = 0;
    private static final int KIND = 1;
    private static final int PARTS = 2;
    private static final int MISS = 3;
    private static final int TURN = 4;
    private static final int FEEDER_TRIES = 5;
    private static final int FEEDER_MISSES = 6;
    private static final int SEEN_TURNED = 7;
    private static final int FEEDER_COLUMNS = 8;
    private static final int TRUST_SUM = 8;

    private static final int STATUS = 2;
    private static final int PLACED_BY = 3;
    private static final int PLACED_FROM = 4;
    private static final int PLACE_COLUMNS = 5;

    private static final int KINDS = 0;
    private static final int NOZZLE_TRIES = 1;
    private static final int NOZZLE_MISSES = 2;
    private static final int PLACED = 3;
    private static final int THROWN = 4;
    private static final int NOZZLE_COLUMNS = 5;

    private static final int EMPTY = 0;
    private static final int RIGHT = 1;
    private static final int WRONG = 2;

    private static final int RETRIES = 0;
    private static final int BLAME = 1;
    private static final int PRAISE = 2;
    private static final int SIGHT = 3;
    private static final int GOSSIP = 4;
    private static final int SETTINGS = 5;
    private static final int[] GREATEST_SETTING = {5, 50, 50, 100, 100};

    private static final int LAST_COUNT = 13;
    private static final int LAST_FORECAST = 3;
    private static final int DIGEST_TIMES = 3;

    private final State now;
    private final State trial;
    private final Tour route;
    private final History history;
    private final BoardText text;

    public GossipHead() {
        now = new State();
        trial = new State();
        route = new Tour();
        history = new History();
        text = new BoardText();
    }

    // ---- feeders, places, nozzles, settings

    public int addFeeder(int x, int kind, int parts, int miss, int turn)
            throws IllegalArgumentException, IllegalStateException {
        checkRange(x, 0, FARTHEST);
        checkRange(kind, 0, LAST_KIND);
        checkRange(parts, 0, MOST_PARTS);
        checkRange(miss, 0, ALL_PERCENT);
        checkRange(turn, 0, ALL_PERCENT);
        if (now.feederCount >= MOST_FEEDERS) {
            throw new IllegalStateException("too many feeders");
        }
        history.save(now);
        return now.newFeeder(x, kind, parts, miss, turn);
    }

    public int addPlace(int x, int kind) throws IllegalArgumentException, IllegalStateException {
        checkRange(x, 0, FARTHEST);
        checkRange(kind, 0, LAST_KIND);
        if (now.placeCount >= MOST_PLACES) {
            throw new IllegalStateException("too many places");
        }
        history.save(now);
        return now.newPlace(x, kind);
    }

    public int fill(int feeder, int parts)
            throws IndexOutOfBoundsException, IllegalArgumentException, IllegalStateException {
        checkFeeder(feeder);
        checkRange(parts, 1, MOST_PARTS);
        int filled = now.feeders.at(feeder, PARTS) + parts;
        if (filled > MOST_PARTS) {
            throw new IllegalStateException("too many parts");
        }
        history.save(now);
        now.feeders.put(feeder, PARTS, filled);
        return filled;
    }

    public int repair(int feeder, int miss, int turn)
            throws IndexOutOfBoundsException, IllegalArgumentException {
        checkFeeder(feeder);
        checkRange(miss, 0, ALL_PERCENT);
        checkRange(turn, 0, ALL_PERCENT);
        history.save(now);
        int previous = now.feeders.at(feeder, MISS);
        now.feeders.put(feeder, MISS, miss);
        now.feeders.put(feeder, TURN, turn);
        return previous;
    }

    public int fit(int nozzle, int kinds) throws IndexOutOfBoundsException, IllegalArgumentException {
        checkNozzle(nozzle);
        checkRange(kinds, 0, ALL_KINDS);
        history.save(now);
        int previous = now.nozzles.at(nozzle, KINDS);
        now.nozzles.put(nozzle, KINDS, kinds);
        return previous;
    }

    public int clear() {
        history.save(now);
        int right = now.placesWith(RIGHT);
        for (int place = 0; place < now.placeCount; place++) {
            now.emptyPlace(place);
        }
        return right;
    }

    public int set(int setting, int value) throws IndexOutOfBoundsException, IllegalArgumentException {
        checkSetting(setting);
        checkRange(value, 0, GREATEST_SETTING[setting]);
        history.save(now);
        int previous = now.settings[setting];
        now.settings[setting] = value;
        return previous;
    }

    // ---- tours, inspection

    public int tour(int times) throws IllegalArgumentException {
        checkRange(times, 1, MOST_TIMES);
        history.save(now);
        return route.make(now, times);
    }

    public int inspect() {
        history.save(now);
        return now.takeOffWrong();
    }

    // ---- texts

    public int append(int code) throws IllegalArgumentException, IllegalStateException {
        checkRange(code, 33, 126);
        if (text.length >= MOST_CHARACTERS) {
            throw new IllegalStateException("the buffer is full");
        }
        text.codes[text.length] = code;
        text.length++;
        return text.length;
    }

    public int clearBuffer() {
        int previous = text.length;
        text.length = 0;
        return previous;
    }

    public int firstError() {
        return text.errorIndex();
    }

    public int read() throws IllegalArgumentException {
        if (!text.isBoard()) {
            throw new IllegalArgumentException("no complete board");
        }
        history.save(now);
        int added = addPartsOfText();
        text.length = 0;
        return added;
    }

    public int undo() throws IllegalStateException {
        if (!history.restore(now)) {
            throw new IllegalStateException("no saved state");
        }
        return history.size;
    }

    // ---- what there is

    public int feeder(int feeder, int what) throws IndexOutOfBoundsException, IllegalArgumentException {
        checkFeeder(feeder);
        checkRange(what, 0, TRUST_SUM);
        return what == TRUST_SUM ? now.trusts.sum(NOZZLES, feeder) : now.feeders.at(feeder, what);
    }

    public int place(int place, int what) throws IndexOutOfBoundsException, IllegalArgumentException {
        if (place < 0 || place >= now.placeCount) {
            throw new IndexOutOfBoundsException("no such place");
        }
        checkRange(what, 0, PLACE_COLUMNS - 1);
        return now.places.at(place, what);
    }

    public int nozzle(int nozzle, int what) throws IndexOutOfBoundsException, IllegalArgumentException {
        checkNozzle(nozzle);
        checkRange(what, 0, NOZZLE_COLUMNS - 1);
        return now.nozzles.at(nozzle, what);
    }

    public int trust(int nozzle, int feeder) throws IndexOutOfBoundsException {
        checkNozzle(nozzle);
        checkFeeder(feeder);
        return now.trusts.at(nozzle, feeder);
    }

    public int count(int what) throws IllegalArgumentException {
        switch (what) {
            case 0: return now.feederCount;
            case 1: return now.placeCount;
            case 2: return now.time;
            case 3: return now.seed;
            case 4: return now.headX;
            case 5: return now.tours;
            case 6: return now.placesWith(EMPTY);
            case 7: return now.placesWith(RIGHT);
            case 8: return now.placesWith(WRONG);
            case 9: return now.misses();
            case 10: return now.nozzles.sum(NOZZLES, THROWN);
            case 11: return now.foundWrong;
            case 12: return now.feeders.sum(now.feederCount, PARTS);
            case 13: return history.size;
            default: throw new IllegalArgumentException("no such number");
        }
    }

    public int setting(int setting) throws IndexOutOfBoundsException {
        checkSetting(setting);
        return now.settings[setting];
    }

    // ---- what would be; nothing is changed

    public int ifToured(int times, int what) throws IllegalArgumentException {
        checkRange(times, 1, MOST_TIMES);
        checkRange(what, 0, LAST_FORECAST);
        trial.copyFrom(now);
        int placed = route.make(trial, times);
        switch (what) {
            case 0: return placed;
            case 1: return trial.misses() - now.misses();
            case 2: return trial.time - now.time;
            default: return trial.placesWith(RIGHT);
        }
    }

    public int choice(int nozzle, int kind) throws IndexOutOfBoundsException, IllegalArgumentException {
        checkNozzle(nozzle);
        checkRange(kind, 0, LAST_KIND);
        return now.favorite(nozzle, kind);
    }

    public int aim(int nozzle) throws IndexOutOfBoundsException {
        checkNozzle(nozzle);
        route.chooseAims(now);
        return route.aims[nozzle];
    }

    public int needed() {
        trial.copyFrom(now);
        int tours = 0;
        while (tours < MOST_NEEDED && !trial.allRight()) {
            route.make(trial, 1);
            trial.takeOffWrong();
            tours++;
        }
        return trial.allRight() ? tours : NONE;
    }

    public int rumored() {
        int found = NONE;
        int greatest = NONE;
        for (int feeder = 0; feeder < now.feederCount; feeder++) {
            int difference = now.trustSpread(feeder);
            if (difference > greatest) {
                greatest = difference;
                found = feeder;
            }
        }
        return found;
    }

    public double missShare() {
        int tries = now.nozzles.sum(NOZZLES, NOZZLE_TRIES);
        return tries > 0 ? (double) now.misses() / (double) tries : 0.0;
    }

    public long digest() {
        long hash = 2467L;
        for (int what = 0; what <= LAST_COUNT; what++) {
            hash = mix(hash, count(what));
        }
        for (int setting = 0; setting < SETTINGS; setting++) {
            hash = mix(hash, now.settings[setting]);
        }
        hash = mixFeedersAndPlaces(hash);
        for (int nozzle = 0; nozzle < NOZZLES; nozzle++) {
            hash = mixNozzle(hash, nozzle);
        }
        for (int what = 0; what <= LAST_FORECAST; what++) {
            hash = mix(hash, ifToured(DIGEST_TIMES, what));
        }
        hash = mix(hash, needed());
        hash = mix(hash, rumored());
        hash = mix(hash, bitsOfShare(missShare()));
        hash = mix(hash, text.length);
        for (int i = 0; i < text.length; i++) {
            hash = mix(hash, text.codes[i]);
        }
        return hash;
    }

    private long mixFeedersAndPlaces(long start) {
        long hash = start;
        for (int feeder = 0; feeder < now.feederCount; feeder++) {
            for (int what = 0; what <= TRUST_SUM; what++) {
                hash = mix(hash, feeder(feeder, what));
            }
        }
        for (int place = 0; place < now.placeCount; place++) {
            for (int what = 0; what < PLACE_COLUMNS; what++) {
                hash = mix(hash, now.places.at(place, what));
            }
        }
        return hash;
    }

    private long mixNozzle(long start, int nozzle) {
        long hash = start;
        for (int what = 0; what < NOZZLE_COLUMNS; what++) {
            hash = mix(hash, now.nozzles.at(nozzle, what));
        }
        for (int feeder = 0; feeder < now.feederCount; feeder++) {
            hash = mix(hash, now.trusts.at(nozzle, feeder));
        }
        for (int kind = 0; kind <= LAST_KIND; kind++) {
            hash = mix(hash, now.favorite(nozzle, kind));
        }
        return mix(hash, aim(nozzle));
    }

    private static long mix(long hash, long value) {
        return 31L * hash + value;
    }

    /** LANGUAGE.md lists no doubleToLongBits; doubling a share of 0 to 1 loses no digit of it. */
    private static long bitsOfShare(double share) {
        if (share <= 0.0) {
            return 0L;
        }
        double scaled = share;
        long exponent = 1023L;
        for (int step = 0; step < 1000 && scaled < 1.0; step++) {
            scaled = scaled * 2.0;
            exponent--;
        }
        long one = 1L << 52;
        return (exponent << 52) + ((long) (scaled * (double) one) - one);
    }

    private int addPartsOfText() {
        int added = 0;
        text.startReading();
        for (int i = 0; i <= text.length; i++) {
            boolean partEnds = i == text.length || text.codes[i] == ';';
            if (partEnds && !addPartOfText()) {
                return added;
            }
            if (partEnds) {
                added++;
            }
            if (i < text.length) {
                text.accept(text.codes[i]);
            }
        }
        return added;
    }

    private boolean addPartOfText() {
        if (text.isFeeder && now.feederCount < MOST_FEEDERS) {
            now.newFeeder(text.numbers[X], text.numbers[KIND], text.numbers[PARTS], 0, 0);
            return true;
        }
        if (!text.isFeeder && now.placeCount < MOST_PLACES) {
            now.newPlace(text.numbers[X], text.numbers[KIND]);
            return true;
        }
        return false;
    }

    private void checkFeeder(int feeder) {
        if (feeder < 0 || feeder >= now.feederCount) {
            throw new IndexOutOfBoundsException("no such feeder");
        }
    }

    private static void checkNozzle(int nozzle) {
        if (nozzle < 0 || nozzle >= NOZZLES) {
            throw new IndexOutOfBoundsException("no such nozzle");
        }
    }

    private static void checkSetting(int setting) {
        if (setting < 0 || setting >= SETTINGS) {
            throw new IndexOutOfBoundsException("no such setting");
        }
    }

    private static void checkRange(int value, int least, int greatest) {
        if (value < least || value > greatest) {
            throw new IllegalArgumentException("out of range");
        }
    }

    /** Numbers in rows and columns; a cell that is not there answers NONE and takes nothing. */
    private static final class Table {
        final int[] cells;
        final int columns;

        Table(int[] cells, int columns) {
            this.cells = cells;
            this.columns = columns;
        }

        int at(int row, int column) {
            int index = row * columns + column;
            boolean there = column >= 0 && column < columns && index >= 0 && index < cells.length;
            return there ? cells[index] : NONE;
        }

        void put(int row, int column, int value) {
            int index = row * columns + column;
            boolean there = column >= 0 && column < columns && index >= 0 && index < cells.length;
            if (there) {
                cells[index] = value;
            }
        }

        void add(int row, int column, int more) {
            put(row, column, at(row, column) + more);
        }

        int sum(int rows, int column) {
            int total = 0;
            for (int row = 0; row < rows; row++) {
                total += at(row, column);
            }
            return total;
        }

        void copyFrom(Table other) {
            System.arraycopy(other.cells, 0, cells, 0, Math.min(other.cells.length, cells.length));
        }
    }

    /** All that undo brings back. */
    private static final class State {
        int feederCount;
        int placeCount;
        int time;
        int seed;
        int headX;
        int tours;
        int foundWrong;
        final int[] settings;
        final Table feeders;
        final Table places;
        final Table nozzles;
        final Table trusts;

        State() {
            seed = 1;
            settings = new int[] {2, 20, 5, 80, 50};
            feeders = new Table(new int[MOST_FEEDERS * FEEDER_COLUMNS], FEEDER_COLUMNS);
            places = new Table(new int[MOST_PLACES * PLACE_COLUMNS], PLACE_COLUMNS);
            nozzles = new Table(new int[NOZZLES * NOZZLE_COLUMNS], NOZZLE_COLUMNS);
            trusts = new Table(new int[NOZZLES * MOST_FEEDERS], MOST_FEEDERS);
            for (int nozzle = 0; nozzle < NOZZLES; nozzle++) {
                nozzles.put(nozzle, KINDS, ALL_KINDS);
            }
        }

        void copyFrom(State other) {
            feederCount = other.feederCount;
            placeCount = other.placeCount;
            time = other.time;
            seed = other.seed;
            headX = other.headX;
            tours = other.tours;
            foundWrong = other.foundWrong;
            System.arraycopy(other.settings, 0, settings, 0, SETTINGS);
            feeders.copyFrom(other.feeders);
            places.copyFrom(other.places);
            nozzles.copyFrom(other.nozzles);
            trusts.copyFrom(other.trusts);
        }

        int newFeeder(int x, int kind, int parts, int miss, int turn) {
            int feeder = feederCount;
            feeders.put(feeder, X, x);
            feeders.put(feeder, KIND, kind);
            feeders.put(feeder, PARTS, parts);
            feeders.put(feeder, MISS, miss);
            feeders.put(feeder, TURN, turn);
            for (int nozzle = 0; nozzle < NOZZLES; nozzle++) {
                trusts.put(nozzle, feeder, FIRST_TRUST);
            }
            feederCount++;
            return feeder;
        }

        int newPlace(int x, int kind) {
            int place = placeCount;
            places.put(place, X, x);
            places.put(place, KIND, kind);
            emptyPlace(place);
            placeCount++;
            return place;
        }

        void emptyPlace(int place) {
            places.put(place, STATUS, EMPTY);
            places.put(place, PLACED_BY, NONE);
            places.put(place, PLACED_FROM, NONE);
        }

        int placesWith(int status) {
            int found = 0;
            for (int place = 0; place < placeCount; place++) {
                if (places.at(place, STATUS) == status) {
                    found++;
                }
            }
            return found;
        }

        boolean allRight() {
            return placesWith(RIGHT) == placeCount;
        }

        int misses() {
            return nozzles.sum(NOZZLES, NOZZLE_MISSES);
        }

        int stockedKinds() {
            int kinds = 0;
            for (int feeder = 0; feeder < feederCount; feeder++) {
                if (feeders.at(feeder, PARTS) > 0) {
                    kinds |= 1 << feeders.at(feeder, KIND);
                }
            }
            return kinds;
        }

        int favorite(int nozzle, int kind) {
            int best = NONE;
            for (int feeder = 0; feeder < feederCount; feeder++) {
                boolean fits = feeders.at(feeder, KIND) == kind && feeders.at(feeder, PARTS) > 0;
                if (fits && (best == NONE || isBetter(nozzle, feeder, best))) {
                    best = feeder;
                }
            }
            return best;
        }

        boolean isBetter(int nozzle, int feeder, int other) {
            int moreTrust = trusts.at(nozzle, feeder) - trusts.at(nozzle, other);
            if (moreTrust != 0) {
                return moreTrust > 0;
            }
            return Math.abs(feeders.at(feeder, X) - headX) < Math.abs(feeders.at(other, X) - headX);
        }

        int trustSpread(int feeder) {
            int least = trusts.at(0, feeder);
            int greatest = least;
            for (int nozzle = 1; nozzle < NOZZLES; nozzle++) {
                least = Math.min(least, trusts.at(nozzle, feeder));
                greatest = Math.max(greatest, trusts.at(nozzle, feeder));
            }
            return greatest - least;
        }

        void blame(int nozzle, int feeder) {
            int less = trusts.at(nozzle, feeder) - settings[BLAME];
            trusts.put(nozzle, feeder, Math.max(less, 0));
        }

        void praise(int nozzle, int feeder) {
            int more = trusts.at(nozzle, feeder) + settings[PRAISE];
            trusts.put(nozzle, feeder, Math.min(more, ALL_PERCENT));
        }

        void goTo(int x, int work) {
            time += Math.abs(x - headX) + work;
            headX = x;
        }

        int drawPercent() {
            long next = 1103515245L * seed + 12345L;
            seed = (int) (next % 2147483648L);
            return seed / 65536 % 100;
        }

        int takeOffWrong() {
            int wrong = 0;
            for (int place = 0; place < placeCount; place++) {
                if (places.at(place, STATUS) == WRONG) {
                    blame(places.at(place, PLACED_BY), places.at(place, PLACED_FROM));
                    emptyPlace(place);
                    wrong++;
                }
            }
            foundWrong += wrong;
            time += INSPECTION_TIME;
            return wrong;
        }
    }

    /** The steps of a tour, and what the nozzles aim at and hold meanwhile. */
    private static final class Tour {
        final int[] aims;
        final int[] sources;
        final boolean[] turned;

        Tour() {
            aims = new int[NOZZLES];
            sources = new int[NOZZLES];
            turned = new boolean[NOZZLES];
        }

        int make(State state, int times) {
            int placed = 0;
            for (int made = 0; made < times; made++) {
                chooseAims(state);
                for (int nozzle = 0; nozzle < NOZZLES; nozzle++) {
                    pickFor(state, nozzle);
                }
                lookAtParts(state);
                placed += placeParts(state);
                for (int nozzle = 0; nozzle + 1 < NOZZLES; nozzle++) {
                    gossip(state, nozzle, nozzle + 1);
                }
                state.tours++;
            }
            return placed;
        }

        void chooseAims(State state) {
            int stocked = state.stockedKinds();
            int taken = 0;
            for (int nozzle = 0; nozzle < NOZZLES; nozzle++) {
                int found = firstAim(state, state.nozzles.at(nozzle, KINDS) & stocked, taken);
                aims[nozzle] = found;
                if (found != NONE) {
                    taken |= 1 << found;
                }
            }
        }

        static int firstAim(State state, int kinds, int taken) {
            for (int place = 0; place < state.placeCount; place++) {
                boolean free = state.places.at(place, STATUS) == EMPTY && (taken >> place & 1) == 0;
                if (free && (kinds >> state.places.at(place, KIND) & 1) == 1) {
                    return place;
                }
            }
            return NONE;
        }

        void pickFor(State state, int nozzle) {
            sources[nozzle] = NONE;
            turned[nozzle] = false;
            if (aims[nozzle] == NONE) {
                return;
            }
            int kind = state.places.at(aims[nozzle], KIND);
            int tries = 1 + state.settings[RETRIES];
            for (int made = 0; made < tries && sources[nozzle] == NONE; made++) {
                int feeder = state.favorite(nozzle, kind);
                if (feeder == NONE) {
                    return;
                }
                tryOnce(state, nozzle, feeder);
            }
        }

        void tryOnce(State state, int nozzle, int feeder) {
            state.goTo(state.feeders.at(feeder, X), PICK_TIME);
            state.feeders.add(feeder, FEEDER_TRIES, 1);
            state.nozzles.add(nozzle, NOZZLE_TRIES, 1);
            if (state.drawPercent() < state.feeders.at(feeder, MISS)) {
                state.feeders.add(feeder, FEEDER_MISSES, 1);
                state.nozzles.add(nozzle, NOZZLE_MISSES, 1);
                state.blame(nozzle, feeder);
                return;
            }
            state.feeders.add(feeder, PARTS, -1);
            state.praise(nozzle, feeder);
            sources[nozzle] = feeder;
            turned[nozzle] = state.drawPercent() < state.feeders.at(feeder, TURN);
        }

        void lookAtParts(State state) {
            for (int nozzle = 0; nozzle < NOZZLES; nozzle++) {
                // The draw is made for a part that is not turned over, too.
                boolean seen = sources[nozzle] != NONE && state.drawPercent() < state.settings[SIGHT];
                if (seen && turned[nozzle]) {
                    state.feeders.add(sources[nozzle], SEEN_TURNED, 1);
                    state.nozzles.add(nozzle, THROWN, 1);
                    state.blame(nozzle, sources[nozzle]);
                    sources[nozzle] = NONE;
                }
            }
        }

        int placeParts(State state) {
            int placed = 0;
            for (int nozzle = 0; nozzle < NOZZLES; nozzle++) {
                if (sources[nozzle] != NONE) {
                    placePart(state, nozzle);
                    placed++;
                }
            }
            return placed;
        }

        void placePart(State state, int nozzle) {
            int place = aims[nozzle];
            state.goTo(state.places.at(place, X), PLACE_TIME);
            state.places.put(place, STATUS, turned[nozzle] ? WRONG : RIGHT);
            state.places.put(place, PLACED_BY, nozzle);
            state.places.put(place, PLACED_FROM, sources[nozzle]);
            state.nozzles.add(nozzle, PLACED, 1);
        }

        static void gossip(State state, int nozzle, int next) {
            for (int feeder = 0; feeder < state.feederCount; feeder++) {
                int difference = state.trusts.at(next, feeder) - state.trusts.at(nozzle, feeder);
                int moved = difference * state.settings[GOSSIP] / 200;
                state.trusts.add(nozzle, feeder, moved);
                state.trusts.add(next, feeder, -moved);
            }
        }
    }

    /** The saved states, the latest last. */
    private static final class History {
        final State[] saved;
        int size;

        History() {
            saved = new State[MOST_SAVED];
        }

        void save(State state) {
            if (size >= MOST_SAVED) {
                dropOldest();
            }
            State room = saved[size];
            if (room == null) {
                room = new State();
                saved[size] = room;
            }
            room.copyFrom(state);
            size++;
        }

        /** The dropped one comes last, so that the next save uses its rows again. */
        void dropOldest() {
            State oldest = saved[0];
            for (int i = 1; i < MOST_SAVED; i++) {
                saved[i - 1] = saved[i];
            }
            saved[MOST_SAVED - 1] = oldest;
            size = MOST_SAVED - 1;
        }

        boolean restore(State state) {
            State latest = size > 0 ? saved[size - 1] : null;
            if (latest == null) {
                return false;
            }
            state.copyFrom(latest);
            size--;
            return true;
        }
    }

    /** The buffer, and a reader that goes over a board in it sign by sign. */
    private static final class BoardText {
        // The numbers of a part stand in the order of a feeder's columns X, KIND and PARTS.
        static final int[] GREATEST_NUMBER = {99, 5, 500};

        final int[] codes;
        int length;
        final int[] numbers;
        int column;
        int digits;
        boolean isFeeder;

        BoardText() {
            codes = new int[MOST_CHARACTERS];
            numbers = new int[PARTS + 1];
            column = NONE;
        }

        boolean isBoard() {
            return errorIndex() == length && column != NONE && digits > 0 && numberEnd() == ';';
        }

        int errorIndex() {
            startReading();
            for (int i = 0; i < length; i++) {
                if (!accept(codes[i])) {
                    return i;
                }
            }
            return length;
        }

        /** A part's letter is due; until it has come there is no number. */
        void startReading() {
            column = NONE;
        }

        boolean accept(int code) {
            if (column < X || column > PARTS) {
                return acceptLetter(code);
            }
            if (code >= '0' && code <= '9') {
                return acceptDigit(code - '0');
            }
            return acceptEnd(code);
        }

        boolean acceptLetter(int code) {
            if (code != 'p' && code != 'f') {
                return false;
            }
            isFeeder = code == 'f';
            startNumber(X);
            return true;
        }

        boolean acceptDigit(int digit) {
            int longer = 10 * numbers[column] + digit;
            boolean zeroLeads = digits > 0 && numbers[column] == 0;
            if (zeroLeads || longer > GREATEST_NUMBER[column]) {
                return false;
            }
            numbers[column] = longer;
            digits++;
            return true;
        }

        boolean acceptEnd(int code) {
            if (digits == 0 || code != numberEnd()) {
                return false;
            }
            if (code == ';') {
                startReading();
            } else {
                startNumber(column + 1);
            }
            return true;
        }

        void startNumber(int next) {
            column = next;
            digits = 0;
            if (next >= X && next <= PARTS) {
                numbers[next] = 0;
            }
        }

        int numberEnd() {
            if (column == X) {
                return ':';
            }
            return column == KIND && isFeeder ? '*' : ';';
        }
    }
}
