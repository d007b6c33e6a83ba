/** Promises 22 to 27: ifToured, choice, aim, needed, rumored, missShare. */
public final class ForecastTest {
    public static void main(String[] args) {
        ifTouredArguments();
        ifTouredTells();
        ifTouredIsWhatTourDoes();
        choice();
        aim();
        neededBounds();
        neededInspects();
        neededNever();
        rumored();
        missShare();
        nothingIsChanged();
        Check.finish();
    }

    private static GossipHead busyHead() {
        GossipHead head = new GossipHead();
        head.addFeeder(10, 0, 60, 45, 35);
        head.addFeeder(70, 0, 60, 15, 55);
        head.addFeeder(40, 1, 60, 25, 25);
        for (int place = 0; place < 12; place++) {
            head.addPlace(place * 7, place % 2);
        }
        return head;
    }

    private static void ifTouredArguments() {
        GossipHead head = busyHead();
        Check.outOfRange(head, "ifToured(0, 0)", () -> head.ifToured(0, 0));
        Check.outOfRange(head, "ifToured(-1, 0)", () -> head.ifToured(-1, 0));
        Check.outOfRange(head, "ifToured(21, 0)", () -> head.ifToured(21, 0));
        Check.outOfRange(head, "ifToured(1, -1)", () -> head.ifToured(1, -1));
        Check.outOfRange(head, "ifToured(1, 4)", () -> head.ifToured(1, 4));
        Check.due("ifToured(20, 0) of nothing", new GossipHead().ifToured(20, 0), 0);
    }

    private static void ifTouredTells() {
        GossipHead head = new GossipHead();
        head.set(3, 0);
        head.addFeeder(10, 0, 9, 0, 0);
        head.addFeeder(10, 1, 9, 0, 100);
        head.addFeeder(10, 2, 9, 100, 0);
        head.addPlace(10, 0);
        head.tour(1);
        head.addPlace(30, 0);
        head.addPlace(30, 1);
        head.addPlace(30, 2);
        Check.due("ifToured(1, 0)", head.ifToured(1, 0), 2);
        Check.due("ifToured(1, 1)", head.ifToured(1, 1), 3);
        Check.due("ifToured(1, 2)", head.ifToured(1, 2), 2 + 2 + 3 * 2 + 20 + 1 + 1);
        Check.due("ifToured(1, 3)", head.ifToured(1, 3), 2);
        Check.due("ifToured(2, 0)", head.ifToured(2, 0), 2);
        Check.due("ifToured(2, 1)", head.ifToured(2, 1), 6);
        Check.due("ifToured(2, 2)", head.ifToured(2, 2), 32 + 20 + 6);
        Check.due("ifToured(2, 3)", head.ifToured(2, 3), 2);
    }

    private static void ifTouredIsWhatTourDoes() {
        for (int times = 1; times <= 20; times++) {
            GossipHead head = busyHead();
            head.tour(1);
            int[] told = new int[4];
            for (int what = 0; what < 4; what++) {
                told[what] = head.ifToured(times, what);
            }
            int misses = head.count(9);
            int time = head.count(2);
            Check.due("ifToured(" + times + ", 0)", told[0], head.tour(times));
            Check.due("ifToured(" + times + ", 1)", told[1], head.count(9) - misses);
            Check.due("ifToured(" + times + ", 2)", told[2], head.count(2) - time);
            Check.due("ifToured(" + times + ", 3)", told[3], head.count(7));
        }
    }

    private static void choice() {
        GossipHead head = new GossipHead();
        Check.noSuch(head, "choice(-1, 0)", () -> head.choice(-1, 0));
        Check.noSuch(head, "choice(4, 6)", () -> head.choice(4, 6));
        Check.outOfRange(head, "choice(0, -1)", () -> head.choice(0, -1));
        Check.outOfRange(head, "choice(3, 6)", () -> head.choice(3, 6));
        Check.due("choice(0, 0) without feeders", head.choice(0, 0), -1);
        head.set(4, 0);
        head.addFeeder(50, 5, 0, 0, 0);
        Check.due("choice(0, 5) without parts", head.choice(0, 5), -1);
        head.addFeeder(60, 5, 9, 100, 0);
        Check.due("choice(0, 5)", head.choice(0, 5), 1);
        Check.due("choice(0, 4)", head.choice(0, 4), -1);
        head.addFeeder(61, 5, 9, 0, 0);
        head.addFeeder(60, 5, 9, 0, 0);
        Check.due("choice(0, 5), the nearest", head.choice(0, 5), 1);
        GossipHead trusting = oneNozzle(1);
        trusting.set(4, 0);
        trusting.set(2, 1);
        trusting.tour(1);
        trusting.addFeeder(20, 0, 9, 0, 0);
        Check.due("choice(0, 0), trusted by 1 more", trusting.choice(0, 0), 0);
        Check.due("choice(1, 0), the nearest", trusting.choice(1, 0), 1);
        head.fit(0, 0);
        Check.due("choice(0, 5), no matter what fits", head.choice(0, 5), 1);
        head.fill(0, 1);
        Check.due("choice(0, 5), filled", head.choice(0, 5), 0);
        head.repair(0, 100, 0);
        head.addPlace(62, 5);
        head.fit(1, 32);
        head.tour(1);
        // Nozzle 1 missed at 0, then at 1, and got a part at 3, which it praises.
        Check.due("distance", head.count(4), 62);
        Check.due("choice(1, 5), the most trusted", head.choice(1, 5), 3);
        Check.due("choice(0, 5), nearest to the head", head.choice(0, 5), 2);
    }

    private static void aim() {
        GossipHead head = new GossipHead();
        Check.noSuch(head, "aim(-1)", () -> head.aim(-1));
        Check.noSuch(head, "aim(4)", () -> head.aim(4));
        for (int nozzle = 0; nozzle < 4; nozzle++) {
            Check.due("aim without places", head.aim(nozzle), -1);
        }
        GossipHead bare = new GossipHead();
        bare.addPlace(0, 0);
        Check.due("aim(0) without feeders", bare.aim(0), -1);
        head.addFeeder(0, 0, 9, 0, 0);
        head.addFeeder(0, 1, 9, 0, 0);
        head.addFeeder(0, 2, 0, 0, 0);
        head.addPlace(9, 2);
        head.addPlace(8, 1);
        head.addPlace(7, 3);
        head.addPlace(6, 0);
        head.fit(0, 1);
        aims(head, 3, 1, -1, -1);
        head.fit(0, 63);
        aims(head, 1, 3, -1, -1);
        head.fill(2, 1);
        aims(head, 0, 1, 3, -1);
        head.fit(1, 8);
        aims(head, 0, -1, 1, 3);
        head.tour(1);
        aims(head, -1, -1, -1, -1);
        head.clear();
        aims(head, 1, -1, 3, -1);
    }

    private static void aims(GossipHead head, int... due) {
        for (int nozzle = 3; nozzle >= 0; nozzle--) {
            Check.due("aim(" + nozzle + ")", head.aim(nozzle), due[nozzle]);
        }
    }

    /** Needs just as many tours as there are places: one nozzle works. */
    private static GossipHead oneNozzle(int places) {
        GossipHead head = new GossipHead();
        head.addFeeder(10, 0, 500, 0, 0);
        for (int nozzle = 1; nozzle < 4; nozzle++) {
            head.fit(nozzle, 0);
        }
        for (int place = 0; place < places; place++) {
            head.addPlace(20, 0);
        }
        return head;
    }

    private static void neededBounds() {
        Check.due("needed() without places", new GossipHead().needed(), 0);
        Check.due("needed() of one", oneNozzle(1).needed(), 1);
        GossipHead head = oneNozzle(24);
        Check.due("needed() of 24", head.needed(), 24);
        head.tour(20);
        Check.due("needed() of four", head.needed(), 4);
        head.tour(4);
        Check.due("needed() of none", head.needed(), 0);
        for (int nozzle = 1; nozzle < 4; nozzle++) {
            head.fit(nozzle, 63);
        }
        head.clear();
        Check.due("needed() with four nozzles", head.needed(), 6);
        atMostForty();
    }

    /** Misses stretch the tours that are needed across 40, by as many places as it takes. */
    private static void atMostForty() {
        int told = 0;
        int none = 0;
        for (int miss = 0; miss <= 99; miss++) {
            GossipHead head = oneNozzle(24);
            head.repair(0, miss, 0);
            head.set(0, 0);
            int due = -1;
            int needed = head.needed();
            for (int tours = 0; tours <= 40; tours++) {
                if (due < 0 && head.count(7) == 24) {
                    due = tours;
                }
                head.tour(1);
                head.inspect();
            }
            Check.due("needed() with misses of " + miss, needed, due);
            told += due > 30 ? 1 : 0;
            none += due < 0 ? 1 : 0;
        }
        Check.due("tests near 40", told > 0 && none > 0 ? 1 : 0, 1);
        justForty();
    }

    private static void justForty() {
        int[] seen = new int[42];
        for (int places = 10; places <= 24; places++) {
            for (int miss = 30; miss <= 60; miss++) {
                GossipHead head = oneNozzle(places);
                head.repair(0, miss, 0);
                head.set(0, 0);
                int needed = head.needed();
                head.tour(20);
                head.tour(20);
                boolean right = head.count(7) == places;
                head.undo();
                head.tour(19);
                boolean earlier = head.count(7) == places;
                if (right && !earlier) {
                    Check.due("needed(), forty", needed, 40);
                    seen[40]++;
                }
                if (!right) {
                    Check.due("needed(), more than forty", needed, -1);
                    head.tour(2);
                    seen[41] += head.count(7) == places ? 1 : 0;
                }
            }
        }
        Check.due("runs of just 40 and 41", seen[40] > 0 && seen[41] > 0 ? 1 : 0, 1);
    }

    private static void neededInspects() {
        GossipHead head = oneNozzle(2);
        head.addFeeder(11, 0, 500, 0, 0);
        head.repair(0, 0, 100);
        head.set(3, 0);
        // Feeder 0 turns over: nozzle 0 is praised by 5 and blamed by 20, and takes feeder 1 then.
        Check.due("needed()", head.needed(), 3);
        head.tour(1);
        Check.due("wrong", head.count(8), 1);
        Check.due("needed() with a wrong one", head.needed(), 3);
        head.inspect();
        Check.due("needed() behind an inspection", head.needed(), 2);
        GossipHead all = oneNozzle(1);
        all.repair(0, 0, 100);
        all.set(3, 0);
        all.tour(1);
        all.repair(0, 0, 0);
        // The first tour has no aim; the inspection behind it empties the place.
        Check.due("needed() of a wrong one", all.needed(), 2);
    }

    private static void neededNever() {
        GossipHead head = new GossipHead();
        head.addPlace(0, 0);
        Check.due("needed() without feeders", head.needed(), -1);
        head.addFeeder(0, 0, 9, 100, 0);
        Check.due("needed() with misses", head.needed(), -1);
        head.repair(0, 0, 100);
        Check.due("needed() with parts turned over", head.needed(), -1);
        head.repair(0, 0, 0);
        Check.due("needed() of a good one", head.needed(), 1);
        head.addPlace(0, 1);
        Check.due("needed() with a kind without feeder", head.needed(), -1);
    }

    private static void rumored() {
        GossipHead head = new GossipHead();
        Check.due("rumored() without feeders", head.rumored(), -1);
        head.set(4, 0);
        head.addFeeder(0, 0, 9, 0, 0);
        Check.due("rumored() of one", head.rumored(), 0);
        head.addFeeder(0, 1, 9, 0, 0);
        head.addFeeder(0, 2, 9, 0, 0);
        Check.due("rumored() of the same", head.rumored(), 0);
        head.addPlace(0, 2);
        head.tour(1);
        Check.due("rumored(), praised", head.rumored(), 2);
        head.addPlace(0, 1);
        head.tour(1);
        Check.due("rumored(), praised the same", head.rumored(), 1);
        head.repair(2, 100, 0);
        head.addPlace(0, 2);
        head.set(0, 0);
        head.set(1, 6);
        head.fit(0, 0);
        head.fit(1, 0);
        head.fit(2, 0);
        head.tour(1);
        // Nozzle 0 trusts 2 by 55, nozzle 3 by 44.
        Check.due("rumored(), missed", head.rumored(), 2);
        for (int nozzle = 0; nozzle < 4; nozzle++) {
            rumoredBy(nozzle, 0, 100);
            rumoredBy(nozzle, 100, 0);
        }
    }

    /** One nozzle alone, whichever it is, thinks better or worse of feeder 1 than the others. */
    private static void rumoredBy(int only, int miss, int sight) {
        GossipHead head = new GossipHead();
        head.set(4, 0);
        head.set(3, sight);
        head.addFeeder(0, 1, 9, 0, 0);
        head.addFeeder(0, 0, 9, miss, 0);
        head.addPlace(0, 0);
        for (int nozzle = 0; nozzle < 4; nozzle++) {
            head.fit(nozzle, nozzle == only ? 1 : 0);
        }
        head.tour(1);
        Check.due("rumored() by nozzle " + only, head.rumored(), 1);
    }

    private static void missShare() {
        GossipHead head = new GossipHead();
        Check.dueDouble("missShare() without tries", head.missShare(), 0.0);
        head.addFeeder(0, 0, 9, 100, 0);
        head.addFeeder(0, 1, 9, 0, 0);
        head.addPlace(0, 0);
        head.addPlace(0, 1);
        head.tour(1);
        Check.dueDouble("missShare()", head.missShare(), 3.0 / 4.0);
        head.tour(2);
        Check.dueDouble("missShare()", head.missShare(), 9.0 / 10.0);
        head.repair(0, 0, 0);
        head.tour(1);
        Check.dueDouble("missShare()", head.missShare(), 9.0 / 11.0);
        head.undo();
        head.undo();
        head.undo();
        Check.dueDouble("missShare() behind undo()", head.missShare(), 3.0 / 4.0);
        GossipHead good = new GossipHead();
        good.addFeeder(0, 0, 9, 0, 0);
        good.addPlace(0, 0);
        good.tour(1);
        Check.dueDouble("missShare() without misses", good.missShare(), 0.0);
        GossipHead bad = new GossipHead();
        bad.addFeeder(0, 0, 9, 100, 0);
        bad.addPlace(0, 0);
        bad.tour(1);
        Check.dueDouble("missShare() of misses alone", bad.missShare(), 1.0);
        GossipHead once = new GossipHead();
        once.set(0, 0);
        once.addFeeder(0, 0, 9, 100, 0);
        once.addPlace(0, 0);
        once.tour(1);
        Check.dueDouble("missShare() of one try", once.missShare(), 1.0);
    }

    private static void nothingIsChanged() {
        GossipHead head = busyHead();
        head.tour(1);
        long before = head.digest();
        head.ifToured(20, 0);
        head.choice(0, 0);
        head.aim(3);
        head.needed();
        head.rumored();
        head.missShare();
        Check.due("digest()", head.digest(), before);
        GossipHead other = busyHead();
        other.tour(1);
        Check.due("digest() without those calls", other.digest(), before);
        Check.due("tour(5)", head.tour(5), other.tour(5));
        Check.due("digest() then", head.digest(), other.digest());
    }
}
