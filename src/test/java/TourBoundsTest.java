/** The boundaries in the steps of a tour, and in inspections. */
public final class TourBoundsTest {
    public static void main(String[] args) {
        firstEmptyPlace();
        aimOfNoOther();
        kindsThatFit();
        feederWithParts();
        noAim();
        pickOrder();
        triesNeeded();
        mostTries();
        partsOfTheKind();
        mostTrusted();
        nearest();
        lowestNumber();
        pickTime();
        missBounds();
        blameOfMisses();
        partLess();
        praise();
        turnBounds();
        lookDraws();
        sightBounds();
        thrownAway();
        placing();
        gossipOrder();
        gossipOfEachFeeder();
        gossipAmount();
        gossipFarApart();
        gossipOfNone();
        inspectedPlaces();
        blameOfInspections();
        inspectionTime();
        Check.finish();
    }

    private static void aims(String when, GossipHead head, int... due) {
        for (int nozzle = 0; nozzle < 4; nozzle++) {
            Check.due("aim(" + nozzle + ") " + when, head.aim(nozzle), due[nozzle]);
        }
    }

    private static void firstEmptyPlace() {
        Check.sentence("Each nozzle gets an aim: the first place that is empty");
        GossipHead head = Bench.still();
        head.set(3, 0);
        head.addFeeder(0, 0, 500, 0, 0);
        Bench.addPlaces(head, 24);
        Bench.fitOnly(head, 0, 1);
        for (int place = 0; place < 24; place++) {
            aims("of " + (24 - place) + " empty ones", head, place, -1, -1, -1);
            head.repair(0, 0, place % 2 * 100);
            head.tour(1);
            Check.due("status of " + place, head.place(place, 2), 1 + place % 2);
        }
        aims("of none", head, -1, -1, -1, -1);
        head.inspect();
        aims("of the wrong ones, inspected", head, 1, -1, -1, -1);
    }

    private static void aimOfNoOther() {
        Check.sentence("that no nozzle ahead of it has as its aim in this tour");
        GossipHead head = new GossipHead();
        head.addFeeder(0, 0, 1, 0, 0);
        aims("of no place", head, -1, -1, -1, -1);
        head.addPlace(0, 0);
        aims("of one place", head, 0, -1, -1, -1);
        head.addPlace(0, 0);
        head.addPlace(0, 0);
        aims("of three places", head, 0, 1, 2, -1);
        head.addPlace(0, 0);
        aims("of four places", head, 0, 1, 2, 3);
        head.addPlace(0, 0);
        aims("of five places", head, 0, 1, 2, 3);
        head.fit(0, 0);
        aims("without nozzle 0", head, -1, 0, 1, 2);
        head.fit(2, 0);
        aims("without nozzles 0 and 2", head, -1, 0, -1, 1);
        GossipHead last = new GossipHead();
        last.addFeeder(0, 5, 9, 0, 0);
        Bench.addPlaces(last, 22);
        last.addPlace(0, 5);
        last.addPlace(0, 5);
        aims("of the last two places", last, 22, 23, -1, -1);
    }

    private static void kindsThatFit() {
        Check.sentence("whose kind it fits");
        GossipHead head = new GossipHead();
        for (int kind = 0; kind <= 5; kind++) {
            head.addFeeder(0, kind, 1, 0, 0);
            head.addPlace(0, kind);
        }
        for (int kind = 0; kind <= 5; kind++) {
            for (int nozzle = 0; nozzle < 4; nozzle++) {
                Bench.fitOnly(head, nozzle, 1 << kind);
                Check.due("aim(" + nozzle + ") for kind " + kind, head.aim(nozzle), kind);
                head.fit(nozzle, 63 - (1 << kind));
                Check.due("aim(" + nozzle + ") for others", head.aim(nozzle), kind == 0 ? 1 : 0);
            }
        }
        Bench.fitAll(head, 0);
        aims("of nozzles that fit nothing", head, -1, -1, -1, -1);
        Bench.fitAll(head, 63);
        aims("of nozzles that fit all", head, 0, 1, 2, 3);
    }

    private static void feederWithParts() {
        Check.sentence("and for whose kind there is a feeder with parts");
        GossipHead head = new GossipHead();
        head.addPlace(0, 5);
        Check.due("aim(0) without feeders", head.aim(0), -1);
        for (int feeder = 0; feeder < 6; feeder++) {
            head.addFeeder(0, feeder % 5, 500, 0, 0);
        }
        Check.due("aim(0) with other kinds", head.aim(0), -1);
        head.addFeeder(0, 5, 0, 0, 0);
        Check.due("aim(0) with a feeder of 0 parts", head.aim(0), -1);
        head.addFeeder(0, 5, 1, 0, 0);
        Check.due("aim(0) with the eighth feeder, of 1 part", head.aim(0), 0);
        head.undo();
        head.fill(6, 1);
        Check.due("aim(0) with a filled feeder", head.aim(0), 0);
    }

    private static void noAim() {
        Check.sentence("if there is none, it has no aim, and does nothing in this tour");
        GossipHead head = Bench.pair(50, 50);
        Bench.fitAll(head, 62);
        Check.due("tour(20)", head.tour(20), 0);
        Check.due("time", head.count(2), 0);
        Check.due("seed", head.count(3), 1);
        Check.due("distance", head.count(4), 0);
        Check.due("tries", head.feeder(0, 5), 0);
        Check.due("parts", head.feeder(0, 2), 500);
        Bench.fitOnly(head, 3, 1);
        head.tour(1);
        for (int nozzle = 0; nozzle < 4; nozzle++) {
            Check.due("tries of nozzle " + nozzle, head.nozzle(nozzle, 1), nozzle == 3 ? 1 : 0);
        }
    }

    private static void pickOrder() {
        Check.sentence("Each nozzle with an aim, by ascending numbers, picks");
        GossipHead head = Bench.still();
        head.addFeeder(0, 0, 1, 0, 0);
        Bench.addPlaces(head, 4);
        head.fit(0, 0);
        Check.due("tour(1) with one part", head.tour(1), 1);
        Check.due("nozzle of place 0", head.place(0, 3), 1);
        Check.due("tries of nozzle 2", head.nozzle(2, 1), 0);
        Check.due("tries of nozzle 3", head.nozzle(3, 1), 0);
        GossipHead apart = Bench.still();
        apart.addFeeder(99, 1, 1, 0, 0);
        apart.addFeeder(0, 0, 1, 0, 0);
        apart.addPlace(0, 0);
        apart.addPlace(0, 1);
        apart.tour(1);
        // Nozzle 0 picks at 0, nozzle 1 at 99; both place at 0.
        Check.due("time", apart.count(2), 0 + 2 + 99 + 2 + 99 + 1 + 0 + 1);
    }

    private static void triesNeeded() {
        Check.sentence("in as many tries as are needed");
        GossipHead head = Bench.pair(0, 0);
        head.set(0, 5);
        head.tour(1);
        Check.due("tries", head.nozzle(0, 1), 1);
        Check.due("parts", head.feeder(0, 2), 499);
    }

    /** Nearer feeders that miss make each try but the last one miss; blame leads on to the next. */
    private static void mostTries() {
        Check.sentence("but at most 1 + setting 0");
        for (int retries = 0; retries <= 5; retries++) {
            for (int missing = 0; missing <= 6; missing++) {
                GossipHead head = Bench.still();
                head.set(0, retries);
                head.set(1, 1);
                for (int feeder = 0; feeder < missing; feeder++) {
                    head.addFeeder(feeder, 0, 9, 100, 0);
                }
                head.addFeeder(99, 0, 9, 0, 0);
                head.addPlace(0, 0);
                String call = "tour(1) with " + retries + " retries, and misses of " + missing;
                Check.due(call, head.tour(1), missing <= retries ? 1 : 0);
                Check.due("tries", head.nozzle(0, 1), Math.min(missing, retries) + 1);
                Check.due("misses", head.nozzle(0, 2), Math.min(missing, retries + 1));
            }
        }
    }

    private static void partsOfTheKind() {
        Check.sentence("and only as long as there is a feeder with parts of the kind");
        for (int parts = 1; parts <= 4; parts++) {
            GossipHead head = Bench.still();
            head.set(0, 5);
            head.addFeeder(0, 0, parts, 0, 0);
            head.addFeeder(0, 1, 500, 0, 0);
            Bench.addPlaces(head, 4);
            for (int nozzle = 0; nozzle < 4; nozzle++) {
                Check.due("aim(" + nozzle + ")", head.aim(nozzle), nozzle);
            }
            Check.due("tour(1) with " + parts + " parts", head.tour(1), parts);
            for (int nozzle = 0; nozzle < 4; nozzle++) {
                Check.due("tries of " + nozzle, head.nozzle(nozzle, 1), nozzle < parts ? 1 : 0);
            }
            Check.due("time", head.count(2), parts * 3);
            Check.due("seed", head.count(3), new Draws().seedAfter(parts * 3));
        }
    }

    private static void mostTrusted() {
        Check.sentence("of the feeders of the kind that have parts, the one that it trusts most");
        for (int more = -1; more <= 1; more++) {
            GossipHead head = Bench.still();
            head.addFeeder(99, 0, 9, 0, 0);
            head.addPlace(99, 0);
            Bench.trust(head, 2, 0, 50 + more);
            // The head is at 99 now; the other feeder stands there, too, and feeder 2 has no parts.
            head.addFeeder(98, 0, 9, 0, 0);
            head.addFeeder(99, 0, 0, 0, 0);
            head.addFeeder(99, 1, 9, 0, 0);
            Check.due("choice(2, 0), trust " + more, head.choice(2, 0), more < 0 ? 1 : 0);
            head.repair(0, 0, 0);
            Bench.fitOnly(head, 2, 63);
            head.tour(1);
            Check.due("feeder of place 0, trust " + more, head.place(0, 4), more < 0 ? 1 : 0);
        }
        GossipHead far = Bench.still();
        far.addFeeder(0, 0, 9, 0, 0);
        far.addPlace(99, 0);
        Bench.trust(far, 0, 0, 51);
        far.addFeeder(99, 0, 9, 0, 0);
        Check.due("choice(0, 0), trusted and far", far.choice(0, 0), 0);
        Check.due("choice(1, 0), near", far.choice(1, 0), 1);
    }

    /** Places are behind the feeders, so that the head stands between them when a tour is over. */
    private static void nearest() {
        Check.sentence("of several the one that is nearest to the head");
        int[][] cases = {{40, 61, 1}, {39, 60, 2}, {0, 99, 2}, {1, 99, 1}, {50, 49, 1}, {51, 50, 2}, {50, 50, 1}};
        for (int[] one : cases) {
            GossipHead head = headAt50();
            head.addFeeder(one[0], 1, 9, 0, 0);
            head.addFeeder(one[1], 1, 9, 0, 0);
            String at = " of " + one[0] + " and " + one[1];
            Check.due("choice(0, 1)" + at, head.choice(0, 1), one[2]);
            head.addPlace(0, 1);
            head.tour(1);
            Check.due("feeder of the place" + at, head.place(1, 4), one[2]);
        }
    }

    private static GossipHead headAt50() {
        GossipHead head = Bench.still();
        head.addFeeder(0, 0, 9, 0, 0);
        head.addPlace(50, 0);
        head.tour(1);
        return head;
    }

    private static void lowestNumber() {
        Check.sentence("of several the one with the lowest number");
        int[][] cases = {{40, 60}, {60, 40}, {0, 0}, {99, 99}, {50, 50}};
        for (int[] one : cases) {
            GossipHead head = headAt50();
            head.addFeeder(one[0], 1, 1, 0, 0);
            for (int i = 0; i < 6; i++) {
                head.addFeeder(one[1 - i % 2], 1, 9, 0, 0);
            }
            Check.due("choice(3, 1) of seven", head.choice(3, 1), 1);
            head.addPlace(50, 1);
            head.tour(1);
            Check.due("feeder of the place", head.place(1, 4), 1);
            Check.due("choice(3, 1) of six", head.choice(3, 1), 2);
        }
    }

    private static void pickTime() {
        Check.sentence("The head goes to it, and the time becomes 2 more");
        int[] distances = {0, 1, 99};
        for (int x : distances) {
            GossipHead head = Bench.still();
            head.set(0, 0);
            head.addFeeder(x, 0, 9, 100, 0);
            head.addPlace(0, 0);
            head.tour(1);
            Check.due("time of a try at " + x, head.count(2), x + 2);
            Check.due("distance", head.count(4), x);
            head.tour(1);
            Check.due("time of a second try at " + x, head.count(2), x + 4);
        }
    }

    private static void missBounds() {
        Check.sentence("If draw(100) is less than what the feeder misses in percent, the try is a miss");
        int[][] cases = {{0, 0, 0}, {0, 1, 1}, {50, 50, 0}, {50, 51, 1}, {99, 99, 0}, {99, 100, 1}};
        for (int[] one : cases) {
            GossipHead head = Bench.aheadOfDraw(1, one[0]);
            head.repair(0, one[1], 0);
            int misses = head.count(9);
            head.tour(1);
            String of = " of a draw of " + one[0] + " with " + one[1] + " percent";
            Check.due("misses" + of, head.count(9) - misses, one[2]);
            Check.due("parts" + of, head.feeder(0, 2), 499 + one[2]);
        }
    }

    private static void blameOfMisses() {
        Check.sentence("the nozzle trusts the feeder less by setting 1 (at least 0)");
        int[][] cases = {{50, 50, 0}, {50, 49, 1}, {50, 0, 50}, {20, 20, 0}, {20, 21, 0}, {20, 19, 1},
            {0, 50, 0}, {0, 0, 0}, {1, 50, 0}, {100, 50, 50}};
        for (int[] one : cases) {
            GossipHead head = Bench.pair(100, 0);
            Bench.trust(head, 0, 0, one[0]);
            head.repair(0, 100, 0);
            head.set(1, one[1]);
            Bench.fitOnly(head, 0, 1);
            head.tour(1);
            Check.due(one[0] + " less " + one[1], head.trust(0, 0), one[2]);
            Check.due("trust of nozzle 1", head.trust(1, 0), 50);
        }
        GossipHead head = Bench.pair(100, 0);
        head.set(0, 5);
        head.set(1, 9);
        head.tour(1);
        Check.due("50 less 6 * 9", head.trust(0, 0), 0);
        GossipHead other = Bench.pair(100, 0);
        other.set(0, 4);
        other.set(1, 9);
        other.tour(1);
        Check.due("50 less 5 * 9", other.trust(0, 0), 5);
    }

    private static void partLess() {
        Check.sentence("Otherwise the feeder has a part less");
        GossipHead full = Bench.pair(0, 0);
        full.tour(1);
        Check.due("parts of 500", full.feeder(0, 2), 499);
        GossipHead last = Bench.still();
        last.addFeeder(0, 0, 1, 0, 0);
        last.addPlace(0, 0);
        last.tour(1);
        Check.due("parts of 1", last.feeder(0, 2), 0);
        last.clear();
        Check.due("tour(1) without parts", last.tour(1), 0);
        Check.due("parts of 0", last.feeder(0, 2), 0);
        GossipHead missing = Bench.pair(100, 0);
        missing.tour(1);
        Check.due("parts behind a miss", missing.feeder(0, 2), 500);
    }

    private static void praise() {
        Check.sentence("the nozzle trusts it more by setting 2 (at most 100)");
        int[][] cases = {{50, 50, 100}, {50, 49, 99}, {50, 0, 50}, {80, 20, 100}, {80, 21, 100}, {80, 19, 99},
            {100, 50, 100}, {100, 0, 100}, {99, 50, 100}, {0, 50, 50}};
        for (int[] one : cases) {
            GossipHead head = Bench.pair(0, 0);
            Bench.trust(head, 3, 0, one[0]);
            head.repair(0, 0, 0);
            head.set(2, one[1]);
            Bench.fitOnly(head, 3, 1);
            head.tour(1);
            Check.due(one[0] + " more " + one[1], head.trust(3, 0), one[2]);
            Check.due("trust of nozzle 2", head.trust(2, 0), 50);
        }
    }

    private static void turnBounds() {
        Check.sentence("which is turned over if draw(100) is less than what the feeder turns over in percent");
        int[][] cases = {{0, 0, 1}, {0, 1, 2}, {50, 50, 1}, {50, 51, 2}, {99, 99, 1}, {99, 100, 2}};
        for (int[] one : cases) {
            GossipHead head = Bench.aheadOfDraw(2, one[0]);
            head.set(3, 0);
            head.repair(0, 0, one[1]);
            head.tour(1);
            String of = "status of a draw of " + one[0] + " with " + one[1] + " percent";
            Check.due(of, head.place(0, 2), one[2]);
        }
    }

    private static void lookDraws() {
        Check.sentence("For each nozzle with a part, by ascending numbers, there is a look (with its draw, whether"
            + " the part is turned over or not)");
        for (int turn = 0; turn <= 100; turn += 100) {
            for (int sight = 0; sight <= 100; sight += 100) {
                GossipHead head = Bench.pair(0, turn);
                head.set(3, sight);
                head.tour(1);
                String call = "seed, turned over " + turn + ", sight " + sight;
                Check.due(call, head.count(3), new Draws().seedAfter(3));
            }
        }
        GossipHead missing = Bench.pair(100, 0);
        missing.tour(1);
        Check.due("seed without a part", missing.count(3), new Draws().seedAfter(1));
        GossipHead four = Bench.pair(0, 0);
        Bench.addPlaces(four, 3);
        four.tour(1);
        Check.due("seed of four parts", four.count(3), new Draws().seedAfter(12));
        for (int seen = 0; seen < 4; seen++) {
            oneSeen(seen);
        }
    }

    /** All four parts are turned over; the lowest draw of the four looks is the one that sees. */
    private static void oneSeen(int offset) {
        int[] looks = new int[4];
        Draws draws = new Draws();
        draws.seedAfter(offset + 8);
        int lowest = 0;
        for (int nozzle = 0; nozzle < 4; nozzle++) {
            looks[nozzle] = draws.next();
            lowest = looks[nozzle] < looks[lowest] ? nozzle : lowest;
        }
        GossipHead head = Bench.pair(100, 0);
        Bench.miss(head, offset);
        head.repair(0, 0, 100);
        Bench.addPlaces(head, 3);
        head.set(3, looks[lowest] + 1);
        head.tour(1);
        for (int nozzle = 0; nozzle < 4; nozzle++) {
            boolean seen = looks[nozzle] <= looks[lowest];
            Check.due("thrown away by " + nozzle, head.nozzle(nozzle, 4), seen ? 1 : 0);
        }
    }

    private static void sightBounds() {
        Check.sentence("the part is seen if draw(100) is less than setting 3");
        int[][] cases = {{0, 0, 0}, {0, 1, 1}, {50, 50, 0}, {50, 51, 1}, {99, 99, 0}, {99, 100, 1}};
        for (int[] one : cases) {
            GossipHead head = Bench.aheadOfDraw(3, one[0]);
            head.set(3, one[1]);
            head.repair(0, 0, 100);
            head.tour(1);
            String of = " of a draw of " + one[0] + " with a sight of " + one[1];
            Check.due("thrown away" + of, head.count(10), one[2]);
            Check.due("status" + of, head.place(0, 2), one[2] == 1 ? 0 : 2);
        }
    }

    private static void thrownAway() {
        Check.sentence("If it is turned over and seen, it is thrown away, and the nozzle trusts its feeder less by"
            + " setting 1 (at least 0)");
        // Trust before, praise, blame, trust behind it.
        int[][] cases = {{50, 0, 50, 0}, {50, 0, 49, 1}, {50, 0, 0, 50}, {50, 50, 50, 50}, {20, 0, 21, 0},
            {20, 0, 20, 0}, {0, 0, 50, 0}, {0, 5, 4, 1}, {0, 5, 6, 0}, {100, 50, 50, 50}};
        for (int[] one : cases) {
            GossipHead head = Bench.pair(0, 0);
            Bench.trust(head, 1, 0, one[0]);
            head.repair(0, 0, 100);
            head.set(1, one[2]);
            head.set(2, one[1]);
            head.set(3, 100);
            Bench.fitOnly(head, 1, 1);
            int parts = head.feeder(0, 2);
            Check.due("tour(1)", head.tour(1), 0);
            Check.due(one[0] + ", praised and blamed", head.trust(1, 0), one[3]);
            Check.due("status", head.place(0, 2), 0);
            Check.due("parts", head.feeder(0, 2), parts - 1);
            Check.due("thrown away", head.nozzle(1, 4), 1);
        }
        GossipHead upright = Bench.pair(0, 0);
        upright.set(3, 100);
        upright.set(1, 20);
        Check.due("tour(1), seen and not turned over", upright.tour(1), 1);
        Check.due("trust then", upright.trust(0, 0), 50);
        Check.due("thrown away then", upright.count(10), 0);
        GossipHead unseen = Bench.pair(0, 100);
        unseen.set(3, 0);
        unseen.set(1, 20);
        Check.due("tour(1), turned over and not seen", unseen.tour(1), 1);
        Check.due("trust then", unseen.trust(0, 0), 50);
        Check.due("thrown away then", unseen.count(10), 0);
    }

    private static void placing() {
        Check.sentence("Each nozzle that still has a part, by ascending numbers, places it: the head goes to its aim,"
            + " and the time becomes 1 more");
        int[] distances = {0, 1, 99};
        for (int x : distances) {
            GossipHead head = Bench.still();
            head.addFeeder(0, 0, 9, 0, 0);
            head.addPlace(x, 0);
            head.tour(1);
            Check.due("time of placing at " + x, head.count(2), 2 + x + 1);
            Check.due("distance", head.count(4), x);
        }
        GossipHead four = Bench.still();
        four.addFeeder(0, 0, 9, 0, 0);
        four.addPlace(99, 0);
        four.addPlace(0, 0);
        four.addPlace(99, 0);
        four.addPlace(1, 0);
        four.tour(1);
        Check.due("time of four", four.count(2), 4 * 2 + 4 * 1 + 99 + 99 + 99 + 98);
        for (int nozzle = 0; nozzle < 4; nozzle++) {
            Check.due("nozzle of place " + nozzle, four.place(nozzle, 3), nozzle);
        }
        Check.sentence("the place is right, or wrong if the part is turned over");
        for (int turn = 0; turn <= 100; turn += 100) {
            GossipHead head = Bench.pair(0, turn);
            head.set(3, 0);
            head.tour(1);
            Check.due("status, turned over " + turn, head.place(0, 2), turn == 0 ? 1 : 2);
        }
    }

    private static void trusts(String when, GossipHead head, int feeder, int... due) {
        for (int nozzle = 0; nozzle < 4; nozzle++) {
            Check.due("trust(" + nozzle + ", " + feeder + ") " + when, head.trust(nozzle, feeder), due[nozzle]);
        }
    }

    private static void gossipOrder() {
        Check.sentence("The nozzles gossip: 0 with 1, then 1 with 2, then 2 with 3");
        int[][] due = {{75, 63, 56, 56}, {75, 63, 56, 56}, {50, 75, 63, 62}, {50, 50, 75, 75}};
        for (int nozzle = 0; nozzle < 4; nozzle++) {
            GossipHead head = Bench.pair(0, 0);
            Bench.trust(head, nozzle, 0, 100);
            head.set(4, 100);
            head.tour(1);
            trusts("with 100 at " + nozzle, head, 0, due[nozzle]);
        }
    }

    private static void gossipOfEachFeeder() {
        Check.sentence("Two that gossip do, for each feeder");
        GossipHead head = Bench.pair(0, 0);
        for (int feeder = 1; feeder < 7; feeder++) {
            head.addFeeder(0, 1, 0, 0, 0);
        }
        head.addFeeder(0, 5, 9, 0, 0);
        head.addPlace(0, 5);
        Bench.trust(head, 0, 0, 70);
        Bench.trust(head, 0, 7, 30);
        head.set(4, 100);
        head.tour(1);
        trusts("gossiped", head, 0, 60, 55, 53, 52);
        for (int feeder = 1; feeder < 7; feeder++) {
            trusts("that agree", head, feeder, 50, 50, 50, 50);
        }
        trusts("gossiped", head, 7, 40, 45, 47, 48);
        Check.sentence("Two that gossip do, for each feeder (also one without parts)");
        GossipHead used = Bench.still();
        used.addFeeder(0, 0, 1, 0, 0);
        used.addPlace(0, 0);
        Bench.trust(used, 0, 0, 70);
        Check.due("parts", used.feeder(0, 2), 0);
        used.set(4, 100);
        used.tour(1);
        trusts("gossiped", used, 0, 60, 55, 53, 52);
    }

    /** Nozzles 0 to 2 agree, so that 2 and 3 alone move: each d from -50 to 50, with each setting. */
    private static void gossipAmount() {
        Check.sentence("with d what the one with the greater number trusts it, less what the other one does, and m as"
            + " d * setting 4 / 200, the other one trusts it m more, and the one with the greater number m less");
        for (int value = 0; value <= 100; value++) {
            gossipAmount(value, 0, 50);
            gossipAmount(value, 51, 100);
        }
    }

    private static void gossipAmount(int value, int least, int greatest) {
        GossipHead head = Bench.pair(0, 0);
        Bench.trust(head, 3, 0, value);
        for (int gossip = least; gossip <= greatest; gossip++) {
            int moved = Math.abs(value - 50) * gossip / 200;
            int m = value < 50 ? -moved : moved;
            head.set(4, gossip);
            head.tour(1);
            Check.due("trust(2, 0) of " + value + " at " + gossip, head.trust(2, 0), 50 + m);
            Check.due("trust(3, 0) of " + value + " at " + gossip, head.trust(3, 0), value - m);
            head.undo();
        }
    }

    private static void gossipFarApart() {
        Check.sentence("m as d * setting 4 / 200 (with the greatest differences)");
        // Trust of 0 and 1, gossip, trust of 0 then.
        int[][] cases = {{0, 100, 100, 50}, {100, 0, 100, 50}, {0, 100, 1, 0}, {0, 100, 2, 1}, {100, 0, 1, 100},
            {100, 0, 2, 99}, {0, 100, 99, 49}, {100, 0, 99, 51}, {0, 100, 0, 0}, {100, 0, 0, 100},
            {0, 1, 100, 0}, {1, 0, 100, 1}, {0, 2, 100, 1}, {2, 0, 100, 1}, {0, 2, 99, 0}, {2, 0, 99, 2},
            {99, 100, 100, 99}, {100, 99, 100, 100}, {98, 100, 100, 99}, {0, 3, 100, 1}, {3, 0, 100, 2}};
        for (int[] one : cases) {
            GossipHead head = Bench.pair(0, 0);
            Bench.trust(head, 0, 0, one[0]);
            Bench.trust(head, 1, 0, one[1]);
            head.set(4, one[2]);
            head.tour(1);
            String call = "trust(0, 0) of " + one[0] + " and " + one[1] + " at " + one[2];
            Check.due(call, head.trust(0, 0), one[3]);
        }
    }

    private static void gossipOfNone() {
        Check.sentence("A tour in which no nozzle has an aim is made, too: the nozzles gossip");
        GossipHead empty = new GossipHead();
        Check.due("tour(20) without feeders", empty.tour(20), 0);
        Check.due("tours", empty.count(5), 20);
        GossipHead head = Bench.pair(0, 0);
        Bench.trust(head, 3, 0, 100);
        head.set(4, 100);
        for (int nozzle = 0; nozzle < 4; nozzle++) {
            Check.due("aim(" + nozzle + ")", head.aim(nozzle), -1);
        }
        int tours = head.count(5);
        Check.due("tour(1)", head.tour(1), 0);
        trusts("gossiped once", head, 0, 50, 50, 75, 75);
        head.tour(1);
        trusts("gossiped twice", head, 0, 50, 62, 69, 69);
        Check.due("tours", head.count(5), tours + 2);
    }

    private static void inspectedPlaces() {
        Check.sentence("When the board is inspected, each wrong place becomes empty");
        GossipHead head = Bench.still();
        Check.due("inspect() of no place", head.inspect(), 0);
        head.set(3, 0);
        head.addFeeder(0, 0, 500, 0, 100);
        Bench.addPlaces(head, 24);
        Check.due("inspect() of empty places", head.inspect(), 0);
        Check.due("tour(6)", head.tour(6), 24);
        Check.due("wrong", head.count(8), 24);
        Check.due("inspect() of 24 wrong places", head.inspect(), 24);
        Check.due("empty", head.count(6), 24);
        for (int place = 0; place < 24; place++) {
            Check.due("status of " + place, head.place(place, 2), 0);
            Check.due("nozzle of " + place, head.place(place, 3), -1);
            Check.due("feeder of " + place, head.place(place, 4), -1);
        }
        head.repair(0, 0, 0);
        head.tour(6);
        Check.due("inspect() of 24 right places", head.inspect(), 0);
        Check.due("right", head.count(7), 24);
        Check.due("nozzle of 23", head.place(23, 3), 3);
        Check.due("found wrong", head.count(11), 24);
    }

    private static void blameOfInspections() {
        Check.sentence("and the nozzle that placed its part trusts the feeder from which it was less by setting 1"
            + " (at least 0)");
        int[][] cases = {{50, 50, 0}, {50, 49, 1}, {50, 0, 50}, {20, 20, 0}, {20, 21, 0}, {20, 19, 1},
            {0, 50, 0}, {0, 0, 0}, {100, 50, 50}};
        for (int[] one : cases) {
            GossipHead head = Bench.pair(0, 0);
            Bench.trust(head, 3, 0, one[0]);
            head.set(2, 0);
            head.set(3, 0);
            head.repair(0, 0, 100);
            Bench.fitOnly(head, 3, 1);
            head.tour(1);
            head.set(1, one[1]);
            Check.due("inspect()", head.inspect(), 1);
            Check.due(one[0] + " less " + one[1], head.trust(3, 0), one[2]);
            Check.due("trust of nozzle 2", head.trust(2, 0), 50);
            Check.due("inspect() again", head.inspect(), 0);
            Check.due("trust then", head.trust(3, 0), one[2]);
        }
        GossipHead often = Bench.pair(0, 100);
        often.set(3, 0);
        Bench.addPlaces(often, 3);
        often.tour(1);
        often.fit(0, 0);
        Bench.addPlaces(often, 3);
        often.tour(1);
        often.set(1, 30);
        Check.due("inspect()", often.inspect(), 7);
        trusts("blamed once, and twice", often, 0, 20, 0, 0, 0);
    }

    private static void inspectionTime() {
        Check.sentence("The time becomes 10 more");
        GossipHead head = new GossipHead();
        head.inspect();
        Check.due("time without places", head.count(2), 10);
        GossipHead wrong = Bench.pair(0, 100);
        wrong.set(3, 0);
        wrong.tour(1);
        wrong.inspect();
        Check.due("time with a wrong place", wrong.count(2), 2 + 1 + 10);
        wrong.inspect();
        Check.due("time of two", wrong.count(2), 2 + 1 + 20);
        GossipHead most = Bench.pair(0, 100);
        most.set(3, 0);
        Bench.addPlaces(most, 23);
        most.tour(6);
        int time = most.count(2);
        Check.due("inspect()", most.inspect(), 24);
        Check.due("time with 24 wrong places", most.count(2), time + 10);
        Check.due("distance", wrong.count(4), 0);
        Check.due("seed", wrong.count(3), new Draws().seedAfter(3));
    }
}
