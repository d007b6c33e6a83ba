/** Heads that stand just at a boundary. */
final class Bench {
    private Bench() {
    }

    /** Without gossip, blame and praise: trust stays as it is. */
    static GossipHead still() {
        GossipHead head = new GossipHead();
        head.set(1, 0);
        head.set(2, 0);
        head.set(4, 0);
        return head;
    }

    /** One feeder and one place, both at 0 and of kind 0; a nozzle tries once in a tour. */
    static GossipHead pair(int miss, int turn) {
        GossipHead head = still();
        head.set(0, 0);
        head.addFeeder(0, 0, 500, miss, turn);
        head.addPlace(0, 0);
        return head;
    }

    /** Feeder 0 misses so often that the draw at the position behind it (1: the next one) is this value. */
    static GossipHead aheadOfDraw(int position, int value) {
        GossipHead head = pair(100, 0);
        Draws draws = new Draws();
        int made = 0;
        while (draws.next() != value || made + 1 < position) {
            made++;
        }
        miss(head, made + 1 - position);
        return head;
    }

    /** Each tour of a pair that misses makes one draw. */
    static void miss(GossipHead head, int draws) {
        int left = draws;
        while (left > 0) {
            int times = Math.min(left, 20);
            head.tour(times);
            left -= times;
        }
    }

    static void fitAll(GossipHead head, int kinds) {
        for (int nozzle = 0; nozzle < 4; nozzle++) {
            head.fit(nozzle, kinds);
        }
    }

    static void fitOnly(GossipHead head, int only, int kinds) {
        for (int nozzle = 0; nozzle < 4; nozzle++) {
            head.fit(nozzle, nozzle == only ? kinds : 0);
        }
    }

    /**
     * Makes a nozzle trust a feeder by this, where it was 50 and the feeder is the only one of its kind
     * with parts, and a place for it is empty. All places are empty then, and the nozzles fit nothing.
     */
    static void trust(GossipHead head, int nozzle, int feeder, int value) {
        head.set(0, 0);
        head.set(1, Math.max(50 - value, 0));
        head.set(2, Math.max(value - 50, 0));
        head.set(4, 0);
        head.repair(feeder, value < 50 ? 100 : 0, 0);
        fitOnly(head, nozzle, 1 << head.feeder(feeder, 1));
        head.tour(1);
        head.clear();
        fitAll(head, 0);
    }

    /** All places are of kind 0, at 0; there is no feeder yet. */
    static void addPlaces(GossipHead head, int places) {
        for (int place = 0; place < places; place++) {
            head.addPlace(0, 0);
        }
    }

    /** 8 feeders, 24 places, 500 parts each, 60 characters, 6 saved states; no place is empty. */
    static GossipHead full() {
        GossipHead head = new GossipHead();
        head.set(3, 0);
        for (int feeder = 0; feeder < 8; feeder++) {
            head.addFeeder(feeder * 14, feeder % 6, 500, 0, feeder % 2 * 100);
        }
        for (int place = 0; place < 24; place++) {
            head.addPlace(99 - place * 4, place % 6);
        }
        head.tour(6);
        for (int feeder = 0; feeder < 8; feeder++) {
            if (head.feeder(feeder, 2) < 500) {
                head.fill(feeder, 500 - head.feeder(feeder, 2));
            }
        }
        Check.type(head, "p10:1");
        for (int part = 0; part < 11; part++) {
            Check.type(head, ";p0:1");
        }
        return head;
    }
}
