import java.math.BigInteger;

/** The boundaries in the document's terms: feeders, places, nozzles, head, time, draws and settings. */
public final class TermsBoundsTest {
    public static void main(String[] args) {
        feeders();
        feederRanges();
        places();
        placeRanges();
        statuses();
        head();
        nozzles();
        trustAtFirst();
        trustRange();
        trustOfTheNext();
        time();
        seed();
        draw();
        settings();
        Check.finish();
    }

    private static void feeders() {
        Check.sentence("There are at most 8 feeders, numbered from 0");
        GossipHead head = new GossipHead();
        Check.noSuch(head, "feeder(0, 0) of none", () -> head.feeder(0, 0));
        for (int number = 0; number < 8; number++) {
            Check.due("addFeeder " + number, head.addFeeder(number, 0, 1, 0, 0), number);
            Check.due("the x of " + number, head.feeder(number, 0), number);
            int next = number + 1;
            Check.noSuch(head, "feeder(" + next + ", 0)", () -> head.feeder(next, 0));
        }
        Check.badState(head, "the ninth addFeeder", () -> head.addFeeder(0, 0, 1, 0, 0));
        Check.due("count(0)", head.count(0), 8);
        Check.noSuch(head, "feeder(-1, 0)", () -> head.feeder(-1, 0));
    }

    private static void feederRanges() {
        Check.sentence("each has a kind of part, 0 to 5");
        feederRange(1, 0, 5);
        Check.sentence("stands at a distance x, 0 to 99");
        feederRange(0, 0, 99);
        Check.sentence("has some parts, 0 to 500");
        feederRange(2, 0, 500);
        Check.sentence("misses and turns over in percent, 0 to 100 each");
        feederRange(3, 0, 100);
        feederRange(4, 0, 100);
    }

    /** The argument stands where the property does. */
    private static void feederRange(int argument, int least, int greatest) {
        GossipHead head = new GossipHead();
        int[] values = {least, least + 1, greatest - 1, greatest};
        for (int i = 0; i < values.length; i++) {
            Check.due("addFeeder", addFeeder(head, argument, values[i]), i);
            Check.due("feeder(" + i + ", " + argument + ")", head.feeder(i, argument), values[i]);
        }
        int[] beyond = {least - 1, greatest + 1, Integer.MIN_VALUE, Integer.MAX_VALUE};
        for (int value : beyond) {
            String call = "addFeeder with " + value + " for argument " + argument;
            Check.outOfRange(head, call, () -> addFeeder(head, argument, value));
        }
    }

    private static int addFeeder(GossipHead head, int argument, int value) {
        int[] a = {50, 3, 20, 30, 40};
        a[argument] = value;
        return head.addFeeder(a[0], a[1], a[2], a[3], a[4]);
    }

    private static void places() {
        Check.sentence("There are at most 24 places on the board, numbered from 0");
        GossipHead head = new GossipHead();
        Check.noSuch(head, "place(0, 0) of none", () -> head.place(0, 0));
        for (int number = 0; number < 24; number++) {
            Check.due("addPlace " + number, head.addPlace(number, 0), number);
            Check.due("the x of " + number, head.place(number, 0), number);
            int next = number + 1;
            Check.noSuch(head, "place(" + next + ", 0)", () -> head.place(next, 0));
        }
        Check.badState(head, "the 25th addPlace", () -> head.addPlace(0, 0));
        Check.due("count(1)", head.count(1), 24);
        Check.noSuch(head, "place(-1, 0)", () -> head.place(-1, 0));
    }

    private static void placeRanges() {
        GossipHead head = new GossipHead();
        Check.sentence("each is at a distance x, 0 to 99");
        int[] distances = {0, 1, 98, 99};
        for (int i = 0; i < 4; i++) {
            Check.due("addPlace", head.addPlace(distances[i], 3), i);
            Check.due("place(" + i + ", 0)", head.place(i, 0), distances[i]);
        }
        int[] beyond = {-1, 100, Integer.MIN_VALUE, Integer.MAX_VALUE};
        for (int x : beyond) {
            Check.outOfRange(head, "addPlace(" + x + ", 3)", () -> head.addPlace(x, 3));
        }
        Check.sentence("needs a kind of part");
        for (int kind = 0; kind <= 5; kind++) {
            Check.due("addPlace", head.addPlace(50, kind), 4 + kind);
            Check.due("place(" + (4 + kind) + ", 1)", head.place(4 + kind, 1), kind);
        }
        int[] noKinds = {-1, 6, Integer.MIN_VALUE, Integer.MAX_VALUE};
        for (int kind : noKinds) {
            Check.outOfRange(head, "addPlace(50, " + kind + ")", () -> head.addPlace(50, kind));
        }
    }

    private static void statuses() {
        Check.sentence("is empty (0), right (1) or wrong (2: its part lies upside down), at first empty");
        for (int turn = 0; turn <= 100; turn += 100) {
            GossipHead head = Bench.pair(0, turn);
            head.set(3, 0);
            Check.due("place(0, 2) at first", head.place(0, 2), 0);
            head.tour(1);
            Check.due("place(0, 2) with a part", head.place(0, 2), turn == 0 ? 1 : 2);
            head.clear();
            Check.due("place(0, 2) behind clear()", head.place(0, 2), 0);
        }
    }

    private static void head() {
        Check.sentence("The head is at a distance, at first 0");
        GossipHead head = Bench.still();
        Check.due("count(4)", head.count(4), 0);
        head.addFeeder(99, 0, 9, 100, 0);
        head.addFeeder(0, 1, 9, 100, 0);
        head.addPlace(50, 0);
        Check.due("count(4) with a feeder and a place", head.count(4), 0);
        head.tour(1);
        Check.due("count(4) at the farthest", head.count(4), 99);
        Bench.fitAll(head, 2);
        head.addPlace(50, 1);
        head.tour(1);
        Check.due("count(4) at the nearest", head.count(4), 0);
    }

    private static void nozzles() {
        Check.sentence("has 4 nozzles, numbered from 0");
        GossipHead head = Bench.pair(0, 0);
        for (int nozzle = 0; nozzle < 4; nozzle++) {
            Check.due("nozzle(" + nozzle + ", 1)", head.nozzle(nozzle, 1), 0);
            Check.due("trust(" + nozzle + ", 0)", head.trust(nozzle, 0), 50);
        }
        int[] beyond = {-1, 4, Integer.MIN_VALUE, Integer.MAX_VALUE};
        for (int nozzle : beyond) {
            Check.noSuch(head, "nozzle(" + nozzle + ", 1)", () -> head.nozzle(nozzle, 1));
            Check.noSuch(head, "trust(" + nozzle + ", 0)", () -> head.trust(nozzle, 0));
        }
        for (int place = 1; place < 6; place++) {
            head.addPlace(0, 0);
        }
        Check.due("tour(1) with six places", head.tour(1), 4);
        Check.sentence("A nozzle fits some kinds of parts (at first all)");
        for (int nozzle = 0; nozzle < 4; nozzle++) {
            Check.due("nozzle(" + nozzle + ", 0)", new GossipHead().nozzle(nozzle, 0), 63);
        }
        for (int kind = 0; kind <= 5; kind++) {
            GossipHead other = new GossipHead();
            other.addFeeder(0, kind, 1, 0, 0);
            other.addPlace(0, kind);
            Check.due("aim(0) for kind " + kind, other.aim(0), 0);
            other.fit(0, 63 - (1 << kind));
            Check.due("aim(0) with all but kind " + kind, other.aim(0), -1);
        }
    }

    private static void trustAtFirst() {
        Check.sentence("and trusts each feeder, 0 to 100, at first 50");
        GossipHead head = new GossipHead();
        for (int feeder = 0; feeder < 8; feeder++) {
            head.addFeeder(0, 0, 0, 100, 100);
            for (int nozzle = 0; nozzle < 4; nozzle++) {
                Check.due("trust(" + nozzle + ", " + feeder + ")", head.trust(nozzle, feeder), 50);
            }
        }
        GossipHead again = Bench.pair(100, 0);
        again.undo();
        again.undo();
        Check.type(again, "f0:0*9");
        again.read();
        Check.due("trust of a feeder that was read", again.trust(0, 0), 50);
    }

    private static void trustRange() {
        Check.sentence("trusts each feeder, 0 to 100");
        for (int value = 0; value <= 100; value++) {
            GossipHead head = Bench.pair(0, 0);
            Bench.trust(head, 3, 0, value);
            Check.due("trust(3, 0)", head.trust(3, 0), value);
        }
    }

    /** What an undone feeder was trusted must not come back with the next one. */
    private static void trustOfTheNext() {
        Check.sentence("and trusts each feeder, 0 to 100, at first 50 (where a feeder was undone)");
        GossipHead head = new GossipHead();
        head.addPlace(0, 0);
        head.addFeeder(0, 0, 9, 100, 0);
        head.tour(1);
        Check.due("trust(0, 0), gossiped", head.trust(0, 0) < 50 ? 1 : 0, 1);
        head.undo();
        head.undo();
        head.addFeeder(0, 0, 9, 0, 0);
        for (int nozzle = 0; nozzle < 4; nozzle++) {
            Check.due("trust in the next feeder 0", head.trust(nozzle, 0), 50);
        }
        Check.due("its tries", head.feeder(0, 5), 0);
        Check.due("its misses", head.feeder(0, 6), 0);
    }

    private static void time() {
        Check.sentence("There is a time, at first 0");
        GossipHead head = Bench.still();
        Check.due("count(2)", head.count(2), 0);
        head.addFeeder(99, 0, 9, 0, 0);
        head.addFeeder(0, 1, 9, 0, 0);
        head.addPlace(0, 0);
        Check.due("count(2) before a tour", head.count(2), 0);
        Check.sentence("When the head goes to a distance, the time becomes greater by how far that is from where it is");
        head.tour(1);
        Check.due("count(2) there and back", head.count(2), 99 + 2 + 99 + 1);
        head.addPlace(0, 1);
        head.tour(1);
        Check.due("count(2) without a way", head.count(2), 201 + 0 + 2 + 0 + 1);
        head.addPlace(99, 1);
        head.tour(1);
        Check.due("count(2) forth alone", head.count(2), 204 + 0 + 2 + 99 + 1);
        head.addPlace(98, 0);
        head.tour(1);
        Check.due("count(2) with a step back", head.count(2), 306 + 0 + 2 + 1 + 1);
    }

    private static void seed() {
        Check.sentence("draw(m) makes the seed, a number from 0 to 2147483647, at first 1, to the remainder of"
            + " (1103515245 * seed + 12345) by 2147483648");
        Check.due("count(3)", new GossipHead().count(3), 1);
        GossipHead head = Bench.pair(100, 0);
        BigInteger seed = BigInteger.ONE;
        int great = 0;
        for (int draws = 1; draws <= 100; draws++) {
            head.tour(1);
            seed = nextSeed(seed);
            Check.due("count(3) behind draw " + draws, head.count(3), seed.longValueExact());
            great += seed.bitLength() == 31 ? 1 : 0;
        }
        Check.due("seeds of 31 bits among them", great > 0 ? 1 : 0, 1);
        for (int round = 1; round <= 100; round++) {
            head.tour(20);
            for (int draws = 0; draws < 20; draws++) {
                seed = nextSeed(seed);
            }
            Check.due("count(3) behind 20 draws more", head.count(3), seed.longValueExact());
        }
    }

    private static BigInteger nextSeed(BigInteger seed) {
        BigInteger product = seed.multiply(BigInteger.valueOf(1103515245));
        return product.add(BigInteger.valueOf(12345)).mod(BigInteger.ONE.shiftLeft(31));
    }

    private static void draw() {
        Check.sentence("and is seed / 65536 modulo m then");
        int[] values = {0, 1, 49, 50, 98, 99};
        for (int value : values) {
            GossipHead head = Bench.aheadOfDraw(1, value);
            head.repair(0, value, 0);
            Check.due("misses in percent, as the draw of " + value, head.ifToured(1, 1), 0);
            head.repair(0, value + 1, 0);
            Check.due("one percent more than the draw of " + value, head.ifToured(1, 1), 1);
        }
    }

    private static void settings() {
        setting(0, "0: retries, 0 to 5, at first 2", 5, 2);
        setting(1, "1: blame, 0 to 50, at first 20", 50, 20);
        setting(2, "2: praise, 0 to 50, at first 5", 50, 5);
        setting(3, "3: sight, 0 to 100, at first 80", 100, 80);
        setting(4, "4: gossip, 0 to 100, at first 50", 100, 50);
    }

    private static void setting(int setting, String words, int greatest, int first) {
        Check.sentence(words);
        GossipHead head = new GossipHead();
        Check.due("at first", head.setting(setting), first);
        int previous = first;
        for (int value = 0; value <= greatest; value++) {
            Check.due("set to " + value, head.set(setting, value), previous);
            Check.due("setting", head.setting(setting), value);
            previous = value;
        }
        int[] beyond = {-1, greatest + 1, Integer.MIN_VALUE, Integer.MAX_VALUE};
        for (int value : beyond) {
            Check.outOfRange(head, "set to " + value, () -> head.set(setting, value));
        }
        Check.due("set back to 0", head.set(setting, 0), greatest);
    }
}
