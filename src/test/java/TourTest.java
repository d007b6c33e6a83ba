/** Promises 9 and 10: tour and inspect, by the steps of a tour that the document's terms tell. */
public final class TourTest {
    public static void main(String[] args) {
        arguments();
        emptyTours();
        aims();
        aimsDoNotReserveParts();
        timeAndPlace();
        favorites();
        retries();
        drawBounds();
        severalDraws();
        trustStaysInRange();
        looks();
        looksByNozzles();
        gossip();
        gossipIsCutTowardsZero();
        gossipNearOne();
        partsRunOut();
        nextFeederAfterMiss();
        undoneAsOne();
        inspection();
        inspectionBlames();
        Check.finish();
    }

    /** Without gossip, so that the trust shows what picks, looks and inspections did. */
    private static GossipHead quietHead() {
        GossipHead head = new GossipHead();
        head.set(4, 0);
        return head;
    }

    private static void arguments() {
        GossipHead head = new GossipHead();
        head.addFeeder(5, 0, 9, 50, 50);
        head.addPlace(9, 0);
        Check.outOfRange(head, "tour(0)", () -> head.tour(0));
        Check.outOfRange(head, "tour(-1)", () -> head.tour(-1));
        Check.outOfRange(head, "tour(21)", () -> head.tour(21));
        Check.outOfRange(head, "tour, the most", () -> head.tour(Integer.MAX_VALUE));
        Check.due("tours", head.count(5), 0);
        head.tour(20);
        Check.due("tours", head.count(5), 20);
    }

    private static void emptyTours() {
        GossipHead head = new GossipHead();
        Check.due("tour(3) without anything", head.tour(3), 0);
        Check.due("tours", head.count(5), 3);
        Check.due("time", head.count(2), 0);
        Check.due("seed", head.count(3), 1);
        head.addFeeder(7, 0, 9, 0, 0);
        head.addPlace(9, 1);
        Check.due("tour(1) without a feeder of the kind", head.tour(1), 0);
        Check.due("time", head.count(2), 0);
        Check.due("seed", head.count(3), 1);
        head.addFeeder(7, 1, 0, 0, 0);
        Check.due("tour(1) without parts", head.tour(1), 0);
        Check.due("tries", head.nozzle(0, 1), 0);
    }

    private static void aims() {
        GossipHead head = quietHead();
        head.addFeeder(0, 0, 50, 0, 0);
        head.addFeeder(0, 2, 50, 0, 0);
        int[] kinds = {1, 0, 2, 2, 0, 0};
        for (int kind : kinds) {
            head.addPlace(0, kind);
        }
        head.fit(0, 4);
        head.fit(2, 2);
        int[] due = {2, 1, -1, 3};
        for (int nozzle = 0; nozzle < 4; nozzle++) {
            Check.due("aim(" + nozzle + ")", head.aim(nozzle), due[nozzle]);
        }
        Check.due("tour(1)", head.tour(1), 3);
        int[] by = {-1, 1, 0, 3, -1, -1};
        int[] from = {-1, 0, 1, 1, -1, -1};
        for (int place = 0; place < 6; place++) {
            Check.due("placed by, " + place, head.place(place, 3), by[place]);
            Check.due("placed from, " + place, head.place(place, 4), from[place]);
            Check.due("status, " + place, head.place(place, 2), by[place] < 0 ? 0 : 1);
        }
        Check.due("tour(2)", head.tour(2), 2);
        Check.due("placed by, 4", head.place(4, 3), 1);
        Check.due("placed by, 5", head.place(5, 3), 3);
        Check.due("nozzle 3 placed", head.nozzle(3, 3), 2);
        Check.due("nozzle 2 placed", head.nozzle(2, 3), 0);
    }

    private static void aimsDoNotReserveParts() {
        GossipHead head = quietHead();
        head.addFeeder(0, 0, 1, 0, 0);
        for (int place = 0; place < 5; place++) {
            head.addPlace(0, 0);
        }
        for (int nozzle = 0; nozzle < 4; nozzle++) {
            Check.due("aim(" + nozzle + ")", head.aim(nozzle), nozzle);
        }
        Check.due("tour(1)", head.tour(1), 1);
        Check.due("tries of nozzle 1", head.nozzle(1, 1), 0);
        Check.due("seed behind three draws", head.count(3), new Draws().seedAfter(3));
    }

    private static void timeAndPlace() {
        GossipHead head = quietHead();
        head.addFeeder(10, 0, 50, 0, 0);
        head.addFeeder(60, 1, 50, 0, 0);
        head.addPlace(30, 0);
        head.addPlace(20, 1);
        Check.due("tour(1)", head.tour(1), 2);
        // 0 to 10, 10 to 60, 60 to 30, 30 to 20, and two picks and two placings.
        Check.due("time", head.count(2), 10 + 50 + 30 + 10 + 2 * 2 + 2);
        Check.due("distance", head.count(4), 20);
        Check.due("tour(1)", head.tour(1), 0);
        Check.due("distance stays", head.count(4), 20);
        Check.due("time stays", head.count(2), 106);
    }

    private static void favorites() {
        GossipHead head = quietHead();
        head.set(1, 7);
        head.set(2, 0);
        head.addFeeder(40, 0, 50, 0, 0);
        head.addFeeder(30, 0, 50, 100, 0);
        head.addFeeder(30, 0, 50, 0, 0);
        head.addFeeder(0, 0, 0, 0, 0);
        head.addPlace(35, 0);
        // 1 is as near as 2 and misses; then 2, not 0, is the nearest of the trusted ones.
        Check.due("tour(1)", head.tour(1), 1);
        Check.due("tries at 0", head.feeder(0, 5), 0);
        Check.due("tries at 1", head.feeder(1, 5), 1);
        Check.due("tries at 2", head.feeder(2, 5), 1);
        Check.due("trust in 1", head.trust(0, 1), 43);
        Check.due("time", head.count(2), 30 + 2 + 2 + 5 + 1);
        Check.due("choice(0, 0) as near to both sides", head.choice(0, 0), 0);
        Check.due("choice(1, 0) of three", head.choice(1, 0), 0);
    }

    private static void retries() {
        for (int retries = 0; retries <= 5; retries++) {
            GossipHead head = quietHead();
            head.set(0, retries);
            head.set(1, 3);
            head.addFeeder(8, 0, 50, 100, 0);
            head.addPlace(50, 0);
            Check.due("tour(1)", head.tour(1), 0);
            int tries = 1 + retries;
            Check.due("tries", head.nozzle(0, 1), tries);
            Check.due("misses", head.nozzle(0, 2), tries);
            Check.due("tries at it", head.feeder(0, 5), tries);
            Check.due("misses at it", head.feeder(0, 6), tries);
            Check.due("all misses", head.count(9), tries);
            Check.due("trust", head.trust(0, 0), 50 - 3 * tries);
            Check.due("parts", head.feeder(0, 2), 50);
            Check.due("time", head.count(2), 8 + 2 * tries);
            Check.due("distance", head.count(4), 8);
            Check.due("seed", head.count(3), new Draws().seedAfter(tries));
        }
    }

    /** One pick and look with each percent just at, and just above, what is drawn. */
    private static void drawBounds() {
        Draws draws = new Draws();
        int first = draws.next();
        int second = draws.next();
        int third = draws.next();
        Check.due("misses at the draw", onePick(first, 0, 0).count(9), 0);
        Check.due("misses above the draw", onePick(first + 1, 0, 0).count(9), 1);
        Check.due("turned at the draw", onePick(0, second, 0).place(0, 2), 1);
        Check.due("turned above the draw", onePick(0, second + 1, 0).place(0, 2), 2);
        Check.due("seen at the draw", onePick(0, 100, third).count(10), 0);
        Check.due("seen above the draw", onePick(0, 100, third + 1).count(10), 1);
    }

    private static GossipHead onePick(int miss, int turn, int sight) {
        GossipHead head = quietHead();
        head.set(0, 0);
        head.set(3, sight);
        head.addFeeder(0, 0, 1, miss, turn);
        head.addPlace(0, 0);
        head.tour(1);
        return head;
    }

    /** All picks draw ahead of all looks, and each look draws, turned over or not. */
    private static void severalDraws() {
        GossipHead head = quietHead();
        head.set(0, 0);
        head.set(3, 50);
        head.addFeeder(0, 0, 500, 30, 50);
        for (int place = 0; place < 24; place++) {
            head.addPlace(0, 0);
        }
        Draws draws = new Draws();
        int[] due = new int[4];
        boolean[] has = new boolean[4];
        boolean[] turned = new boolean[4];
        for (int nozzle = 0; nozzle < 4; nozzle++) {
            has[nozzle] = draws.next() >= 30;
            turned[nozzle] = has[nozzle] && draws.next() < 50;
        }
        for (int nozzle = 0; nozzle < 4; nozzle++) {
            boolean thrown = has[nozzle] && draws.next() < 50 && turned[nozzle];
            due[nozzle] = !has[nozzle] || thrown ? 0 : turned[nozzle] ? 2 : 1;
        }
        head.tour(1);
        for (int place = 0; place < 4; place++) {
            Check.due("status of place " + place, head.place(place, 2), due[place]);
        }
        Check.due("seed", head.count(3), draws.seedAfter(0));
    }

    private static void trustStaysInRange() {
        GossipHead head = quietHead();
        head.set(0, 5);
        head.set(1, 17);
        head.set(2, 50);
        head.addFeeder(0, 0, 500, 100, 0);
        head.addPlace(0, 0);
        head.tour(1);
        Check.due("trust is at least 0", head.trust(0, 0), 0);
        head.repair(0, 0, 0);
        head.tour(1);
        Check.due("trust by praise", head.trust(0, 0), 50);
        head.clear();
        head.tour(1);
        head.clear();
        head.tour(1);
        Check.due("trust is at most 100", head.trust(0, 0), 100);
        Check.due("trust of others stays", head.trust(1, 0), 50);
    }

    private static void looks() {
        GossipHead head = quietHead();
        head.set(3, 100);
        head.addFeeder(3, 0, 9, 0, 100);
        head.addPlace(9, 0);
        Check.due("tour(1) throws away", head.tour(1), 0);
        Check.due("trust, praised and blamed", head.trust(0, 0), 50 + 5 - 20);
        Check.due("parts", head.feeder(0, 2), 8);
        Check.due("seen turned over", head.feeder(0, 7), 1);
        Check.due("misses at it", head.feeder(0, 6), 0);
        Check.due("thrown away by the nozzle", head.nozzle(0, 4), 1);
        Check.due("thrown away", head.count(10), 1);
        Check.due("placed", head.nozzle(0, 3), 0);
        Check.due("place", head.place(0, 2), 0);
        Check.due("time", head.count(2), 5);
        Check.due("distance", head.count(4), 3);
        head.set(3, 0);
        Check.due("tour(1) does not see", head.tour(1), 1);
        Check.due("trust, praised", head.trust(0, 0), 40);
        Check.due("seen turned over", head.feeder(0, 7), 1);
        Check.due("place", head.place(0, 2), 2);
        Check.due("placed by", head.place(0, 3), 0);
        Check.due("placed from", head.place(0, 4), 0);
        Check.due("placed", head.nozzle(0, 3), 1);
        Check.due("time", head.count(2), 5 + 2 + 6 + 1);
        Check.due("a wrong place is no aim", head.aim(0), -1);
    }

    private static void looksByNozzles() {
        GossipHead head = quietHead();
        head.set(3, 100);
        head.set(1, 50);
        head.set(2, 0);
        head.addFeeder(0, 0, 9, 0, 100);
        head.addFeeder(0, 1, 9, 0, 0);
        head.addPlace(10, 0);
        head.addPlace(20, 1);
        head.addPlace(30, 0);
        head.addPlace(40, 1);
        Check.due("tour(1)", head.tour(1), 2);
        Check.due("time", head.count(2), 4 * 2 + 20 + 1 + 20 + 1);
        int[] trust = {0, 50, 0, 50};
        for (int nozzle = 0; nozzle < 4; nozzle++) {
            Check.due("trust of " + nozzle, head.trust(nozzle, 0), trust[nozzle]);
            Check.due("placed by " + nozzle, head.nozzle(nozzle, 3), nozzle % 2);
            Check.due("thrown by " + nozzle, head.nozzle(nozzle, 4), 1 - nozzle % 2);
        }
        Check.due("thrown away", head.count(10), 2);
    }

    /** Four misses make nozzle 0 trust feeder 0 by 10; then tours only gossip. */
    private static GossipHead afterMisses(int gossip) {
        GossipHead head = quietHead();
        head.set(0, 3);
        head.set(1, 10);
        head.addFeeder(0, 0, 9, 100, 0);
        head.addFeeder(0, 1, 9, 0, 0);
        head.addPlace(0, 0);
        head.tour(1);
        head.fit(0, 0);
        head.fit(1, 0);
        head.fit(2, 0);
        head.fit(3, 0);
        head.set(4, gossip);
        return head;
    }

    private static void gossip() {
        GossipHead head = afterMisses(100);
        head.tour(1);
        // 10 and 50 meet at 30, then 30 and 50 at 40, then 40 and 50 at 45.
        int[] once = {30, 40, 45, 45};
        for (int nozzle = 0; nozzle < 4; nozzle++) {
            Check.due("trust of " + nozzle, head.trust(nozzle, 0), once[nozzle]);
            Check.due("trust in 1 of " + nozzle, head.trust(nozzle, 1), 50);
        }
        head.tour(1);
        // 0 and 1: 10 * 100 / 200; 1 and 2: 35 and 45; 2 and 3: 40 and 45, of which 2 go over.
        int[] due = {35, 40, 42, 43};
        for (int nozzle = 0; nozzle < 4; nozzle++) {
            Check.due("trust of " + nozzle + " then", head.trust(nozzle, 0), due[nozzle]);
        }
        Check.due("sum", head.feeder(0, 8), 160);
        Check.due("sum of feeder 1", head.feeder(1, 8), 200);
    }

    private static void gossipIsCutTowardsZero() {
        GossipHead head = afterMisses(50);
        head.tour(1);
        // 40 * 50 / 200 = 10; 10 * 50 / 200 is cut to 2 each way, then 2 * 50 / 200 to 0.
        int[] due = {20, 42, 48, 50};
        for (int nozzle = 0; nozzle < 4; nozzle++) {
            Check.due("trust of " + nozzle, head.trust(nozzle, 0), due[nozzle]);
        }
        GossipHead other = quietHead();
        other.set(2, 3);
        other.addFeeder(0, 0, 9, 0, 0);
        other.addPlace(0, 0);
        other.tour(1);
        other.fit(0, 0);
        other.set(4, 100);
        // 53 and 50: -3 * 100 / 200 is cut to -1; 51 and 50: nothing.
        other.tour(1);
        int[] second = {52, 51, 50, 50};
        for (int nozzle = 0; nozzle < 4; nozzle++) {
            Check.due("trust of " + nozzle + ", negative", other.trust(nozzle, 0), second[nozzle]);
        }
    }

    /** 50 and 0: 50 * 4 / 200 is just 1, and 50 * 3 / 200 is cut to 0. */
    private static void gossipNearOne() {
        for (int gossip = 3; gossip <= 4; gossip++) {
            GossipHead head = quietHead();
            head.set(1, 50);
            head.addFeeder(0, 0, 9, 100, 0);
            head.addPlace(0, 0);
            head.tour(1);
            head.fit(0, 0);
            for (int nozzle = 1; nozzle < 4; nozzle++) {
                head.fit(nozzle, 0);
            }
            head.set(4, gossip);
            head.tour(1);
            Check.due("trust of 0", head.trust(0, 0), gossip - 3);
            Check.due("trust of 1", head.trust(1, 0), 50 - (gossip - 3));
        }
    }

    private static void partsRunOut() {
        GossipHead head = quietHead();
        head.addFeeder(1, 0, 2, 0, 0);
        head.addFeeder(2, 1, 2, 0, 0);
        head.addPlace(5, 0);
        head.addPlace(5, 0);
        head.addPlace(5, 0);
        head.addPlace(5, 1);
        Check.due("tour(1)", head.tour(1), 3);
        Check.due("tries of nozzle 2", head.nozzle(2, 1), 0);
        Check.due("tries of nozzle 3", head.nozzle(3, 1), 1);
        Check.due("time", head.count(2), 1 + 2 + 2 + 1 + 2 + 3 + 3);
        Check.due("parts", head.count(12), 1);
        Check.due("tour(1) without parts", head.tour(1), 0);
        Check.due("tour(20) without parts", head.tour(20), 0);
        Check.due("tours", head.count(5), 22);
    }

    private static void nextFeederAfterMiss() {
        GossipHead head = quietHead();
        head.set(0, 1);
        head.addFeeder(10, 0, 9, 100, 0);
        head.addFeeder(90, 0, 9, 0, 0);
        head.addPlace(90, 0);
        Check.due("choice(0, 0)", head.choice(0, 0), 0);
        Check.due("tour(1)", head.tour(1), 1);
        Check.due("placed from", head.place(0, 4), 1);
        Check.due("time", head.count(2), 10 + 2 + 80 + 2 + 0 + 1);
        Check.due("trust in 0", head.trust(0, 0), 30);
        Check.due("trust in 1", head.trust(0, 1), 55);
    }

    private static void undoneAsOne() {
        GossipHead head = new GossipHead();
        head.addFeeder(10, 0, 90, 30, 30);
        head.addPlace(90, 0);
        head.addPlace(60, 0);
        long before = head.digest();
        head.tour(20);
        Check.undone(head, "tour", before, 3);
        GossipHead apart = new GossipHead();
        apart.addFeeder(10, 0, 90, 30, 30);
        apart.addPlace(90, 0);
        apart.addPlace(60, 0);
        Check.due("tour(3), or one by one", head.tour(3), apart.tour(1) + apart.tour(1) + apart.tour(1));
        apart.undo();
        apart.undo();
        apart.undo();
        apart.tour(3);
        Check.due("digest() of both", apart.digest(), head.digest());
    }

    private static void inspection() {
        GossipHead head = new GossipHead();
        Check.due("inspect() without places", head.inspect(), 0);
        Check.due("time", head.count(2), 10);
        Check.due("saved states", head.count(13), 1);
        long before = head.digest();
        head.inspect();
        Check.undone(head, "inspect", before, 1);
        head.addPlace(0, 0);
        Check.due("inspect() of an empty place", head.inspect(), 0);
        Check.due("found wrong", head.count(11), 0);
    }

    private static void inspectionBlames() {
        GossipHead head = quietHead();
        head.set(3, 0);
        head.set(1, 35);
        head.addFeeder(0, 0, 9, 0, 100);
        head.addFeeder(0, 1, 9, 0, 0);
        head.addPlace(0, 1);
        head.addPlace(0, 0);
        head.fit(2, 0);
        head.fit(3, 1);
        head.tour(1);
        head.addPlace(0, 0);
        head.fit(0, 0);
        head.fit(1, 1);
        head.tour(1);
        Check.due("wrong", head.count(8), 2);
        int time = head.count(2);
        Check.leaveRoom(head);
        long before = head.digest();
        Check.due("inspect()", head.inspect(), 2);
        // Nozzle 1 was praised twice, and is blamed twice.
        Check.due("trust of 1 in 0", head.trust(1, 0), 0);
        Check.due("trust of 0 in 1", head.trust(0, 1), 55);
        Check.due("trust of 0 in 0", head.trust(0, 0), 50);
        Check.due("trust of 3 in 0", head.trust(3, 0), 50);
        Check.due("time", head.count(2), time + 10);
        Check.due("found wrong", head.count(11), 2);
        Check.due("empty", head.count(6), 2);
        Check.due("right", head.count(7), 1);
        Check.due("wrong", head.count(8), 0);
        Check.due("placed by", head.place(1, 3), -1);
        Check.due("placed from", head.place(1, 4), -1);
        Check.due("seen turned over by a nozzle", head.feeder(0, 7), 0);
        Check.undone(head, "inspect", before, 5);
        Check.due("inspect() once more", head.inspect(), 2);
        Check.due("inspect() again", head.inspect(), 0);
        Check.due("found wrong", head.count(11), 2);
    }
}
