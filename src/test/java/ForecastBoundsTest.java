import java.math.BigInteger;

/** The boundaries in promises 22 to 28: what would be, and digest. */
public final class ForecastBoundsTest {
    private static BigInteger hash;

    public static void main(String[] args) {
        ifTouredRanges();
        ifTouredPlaced();
        ifTouredMisses();
        ifTouredTime();
        ifTouredRight();
        choiceRanges();
        choiceOfNone();
        choiceThatDoesNotFit();
        aimRange();
        aimOfNone();
        neededOfNone();
        neededUpToForty();
        neededNever();
        neededInspected();
        rumoredOfNone();
        rumoredDifferences();
        rumoredLowest();
        missShareOfNone();
        missShares();
        nothingIsChanged();
        digestOfNone();
        digestOfFull();
        digestOverflows();
        Check.finish();
    }

    private static void ifTouredRanges() {
        Check.sentence("times: 1 to 20 (ifToured)");
        GossipHead head = Bench.pair(100, 0);
        int[] noTimes = {0, -1, 21, Integer.MIN_VALUE, Integer.MAX_VALUE};
        for (int times : noTimes) {
            for (int what = 0; what < 4; what++) {
                int w = what;
                Check.outOfRange(head, "ifToured(" + times + ", " + w + ")", () -> head.ifToured(times, w));
            }
        }
        for (int times = 1; times <= 20; times++) {
            Check.due("ifToured(" + times + ", 1)", head.ifToured(times, 1), times);
        }
        Check.sentence("IllegalArgumentException if times or what is out of range");
        int[] noWhat = {-1, 4, Integer.MIN_VALUE, Integer.MAX_VALUE};
        for (int what : noWhat) {
            Check.outOfRange(head, "ifToured(1, " + what + ")", () -> head.ifToured(1, what));
            Check.outOfRange(head, "ifToured(20, " + what + ")", () -> head.ifToured(20, what));
            Check.outOfRange(head, "ifToured(21, " + what + ")", () -> head.ifToured(21, what));
        }
    }

    private static void ifTouredPlaced() {
        Check.sentence("0: parts that would be placed in so many tours");
        Check.due("ifToured(20, 0) of nothing", new GossipHead().ifToured(20, 0), 0);
        GossipHead head = Bench.still();
        head.set(3, 0);
        head.addFeeder(0, 0, 500, 0, 100);
        Bench.addPlaces(head, 24);
        for (int times = 1; times <= 20; times++) {
            Check.due("ifToured(" + times + ", 0)", head.ifToured(times, 0), Math.min(4 * times, 24));
        }
        head.tour(6);
        Check.due("ifToured(20, 0) of a board without empty places", head.ifToured(20, 0), 0);
    }

    private static void ifTouredMisses() {
        Check.sentence("1: misses in them");
        Check.due("ifToured(20, 1) of nothing", new GossipHead().ifToured(20, 1), 0);
        GossipHead head = Bench.pair(100, 0);
        head.set(0, 5);
        Bench.addPlaces(head, 3);
        Check.due("ifToured(1, 1)", head.ifToured(1, 1), 24);
        Check.due("ifToured(20, 1)", head.ifToured(20, 1), 480);
        head.tour(1);
        Check.due("ifToured(1, 1) behind a tour", head.ifToured(1, 1), 24);
        head.repair(0, 0, 0);
        Check.due("ifToured(20, 1) of none more", head.ifToured(20, 1), 0);
    }

    private static void ifTouredTime() {
        Check.sentence("2: time that they would take");
        Check.due("ifToured(20, 2) of nothing", new GossipHead().ifToured(20, 2), 0);
        GossipHead head = Bench.still();
        head.addFeeder(99, 0, 1, 0, 0);
        head.addPlace(0, 0);
        Check.due("ifToured(1, 2)", head.ifToured(1, 2), 99 + 2 + 99 + 1);
        head.inspect();
        Check.due("ifToured(1, 2) behind inspect()", head.ifToured(1, 2), 201);
        Check.due("ifToured(20, 2), with 19 tours of nothing", head.ifToured(20, 2), 201);
        head.tour(1);
        Check.due("ifToured(20, 2) of nothing more", head.ifToured(20, 2), 0);
    }

    private static void ifTouredRight() {
        Check.sentence("3: places that would be right then");
        Check.due("ifToured(20, 3) of nothing", new GossipHead().ifToured(20, 3), 0);
        GossipHead head = Bench.still();
        head.set(3, 0);
        head.addFeeder(0, 0, 500, 0, 0);
        Bench.addPlaces(head, 24);
        for (int times = 1; times <= 20; times++) {
            Check.due("ifToured(" + times + ", 3)", head.ifToured(times, 3), Math.min(4 * times, 24));
        }
        head.tour(3);
        head.repair(0, 0, 100);
        Check.due("ifToured(20, 3), with those that are right", head.ifToured(20, 3), 12);
        Check.due("right now", head.count(7), 12);
    }

    private static void choiceRanges() {
        Check.sentence("IndexOutOfBoundsException if there is no such nozzle (choice)");
        GossipHead head = new GossipHead();
        for (int kind = 0; kind <= 5; kind++) {
            head.addFeeder(0, kind, 1, 0, 0);
        }
        int[] noNozzle = {-1, 4, Integer.MIN_VALUE, Integer.MAX_VALUE};
        for (int nozzle : noNozzle) {
            Check.noSuch(head, "choice(" + nozzle + ", 0)", () -> head.choice(nozzle, 0));
        }
        Check.sentence("IllegalArgumentException if kind is out of range");
        int[] noKind = {-1, 6, Integer.MIN_VALUE, Integer.MAX_VALUE};
        for (int kind : noKind) {
            Check.outOfRange(head, "choice(3, " + kind + ")", () -> head.choice(3, kind));
        }
        for (int nozzle = 0; nozzle < 4; nozzle++) {
            for (int kind = 0; kind <= 5; kind++) {
                Check.due("choice(" + nozzle + ", " + kind + ")", head.choice(nozzle, kind), kind);
            }
        }
    }

    private static void choiceOfNone() {
        Check.sentence("NONE if no feeder of this kind has parts");
        GossipHead head = new GossipHead();
        Check.due("choice(0, 0) without feeders", head.choice(0, 0), GossipHead.NONE);
        head.addFeeder(0, 0, 0, 0, 0);
        Check.due("choice(0, 0) without parts", head.choice(0, 0), GossipHead.NONE);
        head.addFeeder(0, 1, 500, 0, 0);
        Check.due("choice(0, 0) with another kind", head.choice(0, 0), GossipHead.NONE);
        head.fill(0, 1);
        Check.due("choice(0, 0) with one part", head.choice(0, 0), 0);
        head.addPlace(0, 0);
        head.tour(1);
        Check.due("choice(0, 0) behind the last part", head.choice(0, 0), GossipHead.NONE);
        GossipHead last = new GossipHead();
        for (int feeder = 0; feeder < 7; feeder++) {
            last.addFeeder(0, 3, 0, 0, 0);
        }
        last.addFeeder(99, 3, 1, 100, 100);
        Check.due("choice(3, 3), the eighth feeder", last.choice(3, 3), 7);
    }

    private static void choiceThatDoesNotFit() {
        Check.sentence("(whether the nozzle fits the kind does not matter)");
        GossipHead head = new GossipHead();
        head.addFeeder(0, 5, 1, 0, 0);
        head.fit(0, 0);
        head.fit(1, 31);
        head.fit(2, 32);
        for (int nozzle = 0; nozzle < 4; nozzle++) {
            Check.due("choice(" + nozzle + ", 5)", head.choice(nozzle, 5), 0);
        }
    }

    private static void aimRange() {
        Check.sentence("IndexOutOfBoundsException if there is no such nozzle (aim)");
        GossipHead head = Bench.pair(0, 0);
        Bench.addPlaces(head, 3);
        int[] noNozzle = {-1, 4, Integer.MIN_VALUE, Integer.MAX_VALUE};
        for (int nozzle : noNozzle) {
            Check.noSuch(head, "aim(" + nozzle + ")", () -> head.aim(nozzle));
        }
        for (int nozzle = 0; nozzle < 4; nozzle++) {
            Check.due("aim(" + nozzle + ")", head.aim(nozzle), nozzle);
        }
    }

    private static void aimOfNone() {
        Check.sentence("Returns the place that would be its aim in the next tour; NONE if it would have none");
        Check.due("aim(0) of nothing", new GossipHead().aim(0), GossipHead.NONE);
        GossipHead head = Bench.pair(0, 0);
        Check.due("aim(0) of one place", head.aim(0), 0);
        Check.due("aim(1) of one place", head.aim(1), GossipHead.NONE);
        head.tour(1);
        Check.due("aim(0) of a full board", head.aim(0), GossipHead.NONE);
        head.clear();
        Check.due("aim(0) of a cleared board", head.aim(0), 0);
        Check.due("aim(3) of a cleared board", head.aim(3), GossipHead.NONE);
    }

    private static void neededOfNone() {
        Check.sentence("Returns the least number of tours, 0 to 40, behind which all places would be right");
        Check.due("needed() without places", new GossipHead().needed(), 0);
        GossipHead head = Bench.still();
        head.addFeeder(0, 0, 500, 0, 0);
        Check.due("needed() without places, with a feeder", head.needed(), 0);
        for (int places = 1; places <= 24; places++) {
            head.addPlace(0, 0);
            Check.due("needed() of " + places + " places", head.needed(), (places + 3) / 4);
        }
        head.tour(6);
        Check.due("needed() of 24 right places", head.needed(), 0);
    }

    /** One nozzle trusts a feeder that misses by so much more, that the other one comes just in time. */
    private static GossipHead latePick(int misses, int places) {
        GossipHead head = Bench.still();
        head.addFeeder(0, 0, 500, 0, 0);
        head.addPlace(0, 0);
        Bench.trust(head, 0, 0, 49 + misses);
        head.set(1, 1);
        head.set(2, 0);
        head.repair(0, 100, 0);
        head.addFeeder(0, 0, 500, 0, 0);
        Bench.addPlaces(head, places - 1);
        Bench.fitOnly(head, 0, 1);
        return head;
    }

    private static void neededUpToForty() {
        Check.sentence("0 to 40; NONE if there is none");
        for (int misses = 1; misses <= 45; misses++) {
            int due = misses + 1 <= 40 ? misses + 1 : GossipHead.NONE;
            Check.due("needed() of one place, with misses of " + misses, latePick(misses, 1).needed(), due);
        }
        for (int misses = 14; misses <= 18; misses++) {
            int due = misses + 24 <= 40 ? misses + 24 : GossipHead.NONE;
            Check.due("needed() of 24 places, with misses of " + misses, latePick(misses, 24).needed(), due);
        }
        GossipHead just = latePick(40, 1);
        Check.due("needed() of 41", just.needed(), GossipHead.NONE);
        just.tour(1);
        Check.due("needed() of 40", just.needed(), 40);
        just.tour(20);
        Check.due("needed() of 20", just.needed(), 20);
        just.tour(19);
        Check.due("needed() of 1", just.needed(), 1);
        just.tour(1);
        Check.due("needed() of 0", just.needed(), 0);
    }

    private static void neededNever() {
        Check.sentence("NONE if there is none");
        GossipHead head = new GossipHead();
        head.addPlace(0, 0);
        Check.due("needed() without feeders", head.needed(), GossipHead.NONE);
        head.addFeeder(0, 0, 0, 0, 0);
        Check.due("needed() without parts", head.needed(), GossipHead.NONE);
        head.fill(0, 1);
        Check.due("needed() with one part", head.needed(), 1);
        head.addPlace(0, 0);
        Check.due("needed() with a part too few", head.needed(), GossipHead.NONE);
        head.fill(0, 1);
        Check.due("needed() with two parts", head.needed(), 1);
        Bench.fitAll(head, 62);
        Check.due("needed() of nozzles that do not fit", head.needed(), GossipHead.NONE);
    }

    private static void neededInspected() {
        Check.sentence("if the board was inspected behind each tour");
        GossipHead head = Bench.pair(0, 100);
        head.set(3, 0);
        head.tour(1);
        head.repair(0, 0, 0);
        Check.due("needed() of a wrong place", head.needed(), 2);
        head.inspect();
        Check.due("needed() of an inspected board", head.needed(), 1);
        // Feeder 0 is the nearest one, until an inspection blames the nozzle for its part.
        GossipHead blamed = Bench.still();
        blamed.set(3, 0);
        blamed.addFeeder(0, 0, 500, 0, 100);
        blamed.addFeeder(50, 0, 500, 0, 0);
        blamed.addPlace(0, 0);
        Check.due("needed() without blame", blamed.needed(), GossipHead.NONE);
        blamed.set(1, 1);
        Check.due("needed() with blame", blamed.needed(), 2);
        Check.due("time stays", blamed.count(2), 0);
        Check.due("found wrong stays", blamed.count(11), 0);
    }

    private static void rumoredOfNone() {
        Check.sentence("NONE without feeders");
        GossipHead head = new GossipHead();
        Check.due("rumored() without feeders", head.rumored(), GossipHead.NONE);
        head.addPlace(0, 0);
        Check.due("rumored() without feeders, with a place", head.rumored(), GossipHead.NONE);
        head.addFeeder(0, 0, 0, 0, 0);
        Check.due("rumored() of one that all trust alike", head.rumored(), 0);
    }

    private static void rumoredDifferences() {
        Check.sentence("Returns the feeder with the greatest difference between the greatest and the least trust of"
            + " nozzles");
        // Trust of nozzle 0 and 3 in feeder 0, and of nozzles 1 and 2 in feeder 1.
        int[][] cases = {{50, 50, 50, 51, 1}, {50, 50, 49, 50, 1}, {51, 49, 50, 51, 0}, {50, 51, 49, 51, 1},
            {0, 100, 1, 100, 0}, {0, 99, 100, 0, 1}, {100, 0, 50, 50, 0}, {50, 0, 50, 99, 0}, {50, 1, 50, 100, 1},
            {100, 100, 51, 0, 1}, {50, 51, 50, 51, 0}, {0, 100, 100, 0, 0}};
        for (int[] one : cases) {
            GossipHead head = Bench.pair(0, 0);
            head.addFeeder(0, 1, 500, 0, 0);
            head.addPlace(0, 1);
            Bench.trust(head, 0, 0, one[0]);
            Bench.trust(head, 3, 0, one[1]);
            Bench.trust(head, 1, 1, one[2]);
            Bench.trust(head, 2, 1, one[3]);
            String call = "rumored() of " + one[0] + ", " + one[1] + " and " + one[2] + ", " + one[3];
            Check.due(call, head.rumored(), one[4]);
        }
    }

    private static void rumoredLowest() {
        Check.sentence("of several the lowest number");
        GossipHead head = new GossipHead();
        for (int kind = 0; kind <= 5; kind++) {
            head.addFeeder(0, kind, 9, 0, 0);
            Check.due("rumored() of feeders that are trusted alike", head.rumored(), 0);
        }
        head.addFeeder(0, 0, 0, 0, 0);
        head.addFeeder(0, 0, 0, 0, 0);
        Check.due("rumored() of eight that are trusted alike", head.rumored(), 0);
        for (int kind = 5; kind >= 0; kind--) {
            GossipHead one = new GossipHead();
            for (int feeder = 0; feeder <= 5; feeder++) {
                one.addFeeder(0, feeder, 9, 0, 0);
                one.addPlace(0, feeder);
            }
            for (int feeder = kind; feeder <= 5; feeder++) {
                Bench.trust(one, feeder % 4, feeder, feeder % 2 == 0 ? 60 : 40);
            }
            Check.due("rumored() of several from " + kind, one.rumored(), kind);
        }
    }

    private static void missShareOfNone() {
        Check.sentence("0.0 if there were none");
        GossipHead head = Bench.pair(0, 0);
        Check.dueDouble("missShare() without tries", head.missShare(), 0.0);
        Bench.fitAll(head, 0);
        head.tour(20);
        Check.dueDouble("missShare() of tours without tries", head.missShare(), 0.0);
        Bench.fitAll(head, 1);
        head.tour(1);
        Check.dueDouble("missShare() of a try without a miss", head.missShare(), 0.0);
    }

    private static void missShares() {
        Check.sentence("Returns count(9), as a double, divided by the number of all tries so far");
        GossipHead head = Bench.pair(100, 0);
        head.tour(1);
        Check.dueDouble("missShare() of one miss", head.missShare(), 1.0);
        head.repair(0, 0, 0);
        for (int tries = 2; tries <= 100; tries++) {
            head.tour(1);
            head.clear();
            Check.dueDouble("missShare() of one in " + tries, head.missShare(), 1.0 / tries);
        }
        GossipHead most = Bench.pair(100, 0);
        Bench.addPlaces(most, 3);
        for (int call = 1; call <= 20; call++) {
            most.tour(20);
            Check.dueDouble("missShare() of misses alone", most.missShare(), 1.0);
        }
        most.repair(0, 0, 0);
        most.tour(1);
        Check.dueDouble("missShare() of 1600 in 1604", most.missShare(), 1600.0 / 1604.0);
    }

    private static void nothingIsChanged() {
        Check.sentence("what would be; nothing is changed");
        GossipHead head = Bench.full();
        GossipHead same = Bench.full();
        head.undo();
        same.undo();
        head.clear();
        same.clear();
        long before = same.digest();
        head.ifToured(20, 3);
        head.choice(0, 0);
        head.aim(0);
        head.needed();
        head.rumored();
        head.missShare();
        head.digest();
        Check.due("digest()", head.digest(), before);
        for (int left = 5; left >= 0; left--) {
            Check.due("undo()", head.undo(), left);
            head.ifToured(20, 0);
            head.needed();
            same.undo();
            Check.due("digest() with " + left + " saved states", head.digest(), same.digest());
        }
        Check.due("tour(20)", head.tour(20), same.tour(20));
        Check.due("digest() behind a tour", head.digest(), same.digest());
    }

    private static void add(long value) {
        hash = hash.multiply(BigInteger.valueOf(31)).add(BigInteger.valueOf(value));
    }

    private static void addZeros(int values) {
        for (int i = 0; i < values; i++) {
            add(0);
        }
    }

    private static void digestOfNone() {
        Check.sentence("The hash starts at 2467 (no feeders, no places, an empty buffer)");
        hash = BigInteger.valueOf(2467);
        addZeros(3);
        add(1);
        addZeros(10);
        int[] settings = {2, 20, 5, 80, 50};
        for (int setting : settings) {
            add(setting);
        }
        for (int nozzle = 0; nozzle < 4; nozzle++) {
            add(63);
            addZeros(4);
            for (int none = 0; none < 7; none++) {
                add(-1);
            }
        }
        addZeros(4);
        add(0);
        add(-1);
        add(Double.doubleToLongBits(0.0));
        add(0);
        Check.due("digest() of a new head", new GossipHead().digest(), hash.longValue());
    }

    /** All values of a full head, as the other calls tell them. */
    private static void digestOfFull() {
        Check.sentence("the hash becomes 31 * hash + v (8 feeders, 24 places, 60 characters, 6 saved states)");
        String buffer = "p10:1;p0:1;p0:1;p0:1;p0:1;p0:1;p0:1;p0:1;p0:1;p0:1;p0:1;p0:1";
        Check.due("digest() of a full head", Bench.full().digest(), told(Bench.full(), buffer));
        GossipHead head = Bench.full();
        head.repair(0, 100, 0);
        head.clear();
        head.tour(1);
        Check.due("a fourth tour is not as three", head.ifToured(4, 0) - head.ifToured(3, 0), 4);
        head.clearBuffer();
        Check.due("digest() without a buffer", head.digest(), told(head, ""));
        head.append(126);
        Check.due("digest() with a character", head.digest(), told(head, "~"));
    }

    private static long told(GossipHead head, String buffer) {
        hash = BigInteger.valueOf(2467);
        for (int what = 0; what <= 13; what++) {
            add(head.count(what));
        }
        for (int setting = 0; setting <= 4; setting++) {
            add(head.setting(setting));
        }
        for (int i = 0; i < 9 * 8; i++) {
            add(head.feeder(i / 9, i % 9));
        }
        for (int i = 0; i < 5 * 24; i++) {
            add(head.place(i / 5, i % 5));
        }
        for (int nozzle = 0; nozzle < 4; nozzle++) {
            for (int what = 0; what <= 4; what++) {
                add(head.nozzle(nozzle, what));
            }
            for (int feeder = 0; feeder < 8; feeder++) {
                add(head.trust(nozzle, feeder));
            }
            for (int kind = 0; kind <= 5; kind++) {
                add(head.choice(nozzle, kind));
            }
            add(head.aim(nozzle));
        }
        for (int what = 0; what <= 3; what++) {
            add(head.ifToured(3, what));
        }
        add(head.needed());
        add(head.rumored());
        add(Double.doubleToLongBits(head.missShare()));
        add(buffer.length());
        for (int i = 0; i < buffer.length(); i++) {
            add(buffer.charAt(i));
        }
        return hash.longValue();
    }

    /** Each character more multiplies what goes beyond 64 bits. */
    private static void digestOverflows() {
        Check.sentence("in long arithmetic with overflow");
        GossipHead head = new GossipHead();
        BigInteger empty = BigInteger.valueOf(head.digest());
        int negative = 0;
        for (int length = 1; length <= 60; length++) {
            head.append(33 + length);
            hash = empty.add(BigInteger.valueOf(length));
            for (int i = 1; i <= length; i++) {
                add(33 + i);
            }
            Check.due("digest() of " + length + " characters", head.digest(), hash.longValue());
            negative += head.digest() < 0 ? 1 : 0;
        }
        Check.due("negative ones among them", negative > 0 && negative < 60 ? 1 : 0, 1);
        Check.due("beyond 64 bits", hash.bitLength() > 64 ? 1 : 0, 1);
    }
}
