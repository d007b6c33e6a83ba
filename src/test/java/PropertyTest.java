/** Promises 16 to 21: feeder, place, nozzle, trust, count, setting. */
public final class PropertyTest {
    public static void main(String[] args) {
        feeder();
        place();
        nozzle();
        trust();
        count();
        setting();
        nothingIsChanged();
        Check.finish();
    }

    /** Nozzle 0 misses three times, 1 places a wrong part, 2 throws one away, 3 places a right one. */
    private static GossipHead worked() {
        GossipHead head = new GossipHead();
        head.set(4, 0);
        head.addFeeder(10, 0, 30, 100, 0);
        head.addFeeder(20, 1, 40, 0, 100);
        head.addFeeder(30, 2, 50, 0, 0);
        for (int kind = 0; kind < 3; kind++) {
            head.addPlace(50 + kind, kind);
        }
        fitOneByOne(head, 0, 0);
        head.set(3, 0);
        fitOneByOne(head, 1, 1);
        fitOneByOne(head, 3, 2);
        head.addPlace(90, 1);
        head.set(3, 100);
        fitOneByOne(head, 2, 1);
        return head;
    }

    private static void fitOneByOne(GossipHead head, int only, int kind) {
        for (int nozzle = 0; nozzle < 4; nozzle++) {
            head.fit(nozzle, nozzle == only ? 1 << kind : 0);
        }
        head.tour(1);
    }

    private static void feeder() {
        GossipHead empty = new GossipHead();
        Check.noSuch(empty, "feeder(0, 0) without feeders", () -> empty.feeder(0, 0));
        GossipHead head = worked();
        Check.noSuch(head, "feeder(3, 9)", () -> head.feeder(3, 9));
        Check.noSuch(head, "feeder(-1, 0)", () -> head.feeder(-1, 0));
        Check.outOfRange(head, "feeder(2, 9)", () -> head.feeder(2, 9));
        Check.outOfRange(head, "feeder(0, -1)", () -> head.feeder(0, -1));
        int[][] due = {
            {10, 0, 30, 100, 0, 3, 3, 0, 150},
            {20, 1, 38, 0, 100, 2, 0, 1, 190},
            {30, 2, 49, 0, 0, 1, 0, 0, 205},
        };
        for (int feeder = 0; feeder < 3; feeder++) {
            for (int what = 0; what <= 8; what++) {
                String call = "feeder(" + feeder + ", " + what + ")";
                Check.due(call, head.feeder(feeder, what), due[feeder][what]);
            }
        }
    }

    private static void place() {
        GossipHead empty = new GossipHead();
        Check.noSuch(empty, "place(0, 0) without places", () -> empty.place(0, 0));
        GossipHead head = worked();
        Check.noSuch(head, "place(4, 5)", () -> head.place(4, 5));
        Check.noSuch(head, "place(-1, 0)", () -> head.place(-1, 0));
        Check.outOfRange(head, "place(3, 5)", () -> head.place(3, 5));
        Check.outOfRange(head, "place(0, -1)", () -> head.place(0, -1));
        int[][] due = {{50, 0, 0, -1, -1}, {51, 1, 2, 1, 1}, {52, 2, 1, 3, 2}, {90, 1, 0, -1, -1}};
        for (int place = 0; place < 4; place++) {
            for (int what = 0; what <= 4; what++) {
                String call = "place(" + place + ", " + what + ")";
                Check.due(call, head.place(place, what), due[place][what]);
            }
        }
    }

    private static void nozzle() {
        GossipHead head = worked();
        Check.noSuch(head, "nozzle(4, 5)", () -> head.nozzle(4, 5));
        Check.noSuch(head, "nozzle(-1, 0)", () -> head.nozzle(-1, 0));
        Check.outOfRange(head, "nozzle(3, 5)", () -> head.nozzle(3, 5));
        Check.outOfRange(head, "nozzle(0, -1)", () -> head.nozzle(0, -1));
        int[][] due = {{0, 3, 3, 0, 0}, {0, 1, 0, 1, 0}, {2, 1, 0, 0, 1}, {0, 1, 0, 1, 0}};
        for (int nozzle = 0; nozzle < 4; nozzle++) {
            for (int what = 0; what <= 4; what++) {
                String call = "nozzle(" + nozzle + ", " + what + ")";
                Check.due(call, head.nozzle(nozzle, what), due[nozzle][what]);
            }
        }
    }

    private static void trust() {
        GossipHead empty = new GossipHead();
        Check.noSuch(empty, "trust(0, 0) without feeders", () -> empty.trust(0, 0));
        GossipHead head = worked();
        Check.noSuch(head, "trust(-1, 0)", () -> head.trust(-1, 0));
        Check.noSuch(head, "trust(4, 0)", () -> head.trust(4, 0));
        Check.noSuch(head, "trust(0, -1)", () -> head.trust(0, -1));
        Check.noSuch(head, "trust(3, 3)", () -> head.trust(3, 3));
        int[][] due = {{0, 50, 50}, {50, 55, 50}, {50, 35, 50}, {50, 50, 55}};
        for (int nozzle = 0; nozzle < 4; nozzle++) {
            for (int feeder = 0; feeder < 3; feeder++) {
                String call = "trust(" + nozzle + ", " + feeder + ")";
                Check.due(call, head.trust(nozzle, feeder), due[nozzle][feeder]);
            }
        }
    }

    private static void count() {
        GossipHead head = worked();
        head.inspect();
        Check.outOfRange(head, "count(-1)", () -> head.count(-1));
        Check.outOfRange(head, "count(14)", () -> head.count(14));
        // Three draws of misses; a pick and a look make three draws each.
        long seed = new Draws().seedAfter(3 + 3 * 3);
        int time = 10 + 3 * 2 + 10 + 2 + 31 + 1 + 21 + 2 + 22 + 1 + 32 + 2 + 10;
        long[] due = {3, 4, time, seed, 20, 4, 3, 1, 0, 3, 1, 1, 30 + 38 + 49, 6};
        for (int what = 0; what <= 13; what++) {
            Check.due("count(" + what + ")", head.count(what), due[what]);
        }
        Check.due("wrong, not inspected", worked().count(8), 1);
    }

    private static void setting() {
        GossipHead head = new GossipHead();
        Check.noSuch(head, "setting(-1)", () -> head.setting(-1));
        Check.noSuch(head, "setting(5)", () -> head.setting(5));
        for (int setting = 0; setting < 5; setting++) {
            head.set(setting, setting + 1);
        }
        for (int setting = 0; setting < 5; setting++) {
            Check.due("setting(" + setting + ")", head.setting(setting), setting + 1);
        }
    }

    private static void nothingIsChanged() {
        GossipHead head = worked();
        long before = head.digest();
        for (int what = 0; what <= 13; what++) {
            head.count(what);
        }
        head.feeder(1, 8);
        head.place(1, 2);
        head.nozzle(1, 1);
        head.trust(1, 1);
        head.setting(1);
        Check.due("digest()", head.digest(), before);
        Check.due("saved states", head.count(13), 6);
    }
}
