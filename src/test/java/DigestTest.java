/** Promise 28: digest, put together here from what the other calls answer. */
public final class DigestTest {
    private static long hash;

    public static void main(String[] args) {
        Check.due("digest() of a new object", new GossipHead().digest(), told(new GossipHead(), ""));
        GossipHead head = new GossipHead();
        head.addFeeder(10, 0, 60, 45, 35);
        same(head, "");
        head.addFeeder(70, 1, 60, 15, 55);
        for (int place = 0; place < 14; place++) {
            head.addPlace(place * 7, place % 2);
        }
        same(head, "");
        for (int i = 0; i < 30; i++) {
            head.tour(1);
            same(head, "");
            if (i % 5 == 4) {
                head.inspect();
                same(head, "");
            }
        }
        head.clear();
        head.fit(2, 2);
        head.set(3, 41);
        same(head, "");
        Check.type(head, "p1:~!");
        same(head, "p1:~!");
        head.undo();
        same(head, "p1:~!");
        allMisses();
        smallShares();
        Check.finish();
    }

    private static void same(GossipHead head, String buffer) {
        long got = head.digest();
        Check.due("digest()", got, told(head, buffer));
        Check.due("digest() again", head.digest(), got);
    }

    private static void add(long value) {
        hash = 31 * hash + value;
    }

    private static long told(GossipHead head, String buffer) {
        hash = 2467;
        for (int what = 0; what <= 13; what++) {
            add(head.count(what));
        }
        for (int setting = 0; setting <= 4; setting++) {
            add(head.setting(setting));
        }
        for (int feeder = 0; feeder < head.count(0); feeder++) {
            for (int what = 0; what <= 8; what++) {
                add(head.feeder(feeder, what));
            }
        }
        for (int place = 0; place < head.count(1); place++) {
            for (int what = 0; what <= 4; what++) {
                add(head.place(place, what));
            }
        }
        for (int nozzle = 0; nozzle <= 3; nozzle++) {
            addNozzle(head, nozzle);
        }
        for (int what = 0; what <= 3; what++) {
            add(head.ifToured(3, what));
        }
        add(head.needed());
        add(head.rumored());
        add(Double.doubleToLongBits(head.missShare()));
        add(buffer.length());
        for (int i = 0; i < buffer.length(); i++) {
            add(buffer.charAt(i));
        }
        return hash;
    }

    private static void addNozzle(GossipHead head, int nozzle) {
        for (int what = 0; what <= 4; what++) {
            add(head.nozzle(nozzle, what));
        }
        for (int feeder = 0; feeder < head.count(0); feeder++) {
            add(head.trust(nozzle, feeder));
        }
        for (int kind = 0; kind <= 5; kind++) {
            add(head.choice(nozzle, kind));
        }
        add(head.aim(nozzle));
    }

    private static void allMisses() {
        GossipHead head = new GossipHead();
        head.addFeeder(0, 0, 1, 100, 0);
        head.addPlace(0, 0);
        head.tour(1);
        Check.dueDouble("missShare()", head.missShare(), 1.0);
        same(head, "");
    }

    /** Some hundred tries, of which a few miss, so that the share's exponent goes down. */
    private static void smallShares() {
        GossipHead head = new GossipHead();
        head.addFeeder(0, 0, 500, 0, 0);
        for (int place = 0; place < 24; place++) {
            head.addPlace(0, 0);
        }
        head.set(0, 0);
        head.repair(0, 100, 0);
        head.tour(1);
        head.repair(0, 0, 0);
        for (int i = 0; i < 15; i++) {
            head.tour(10);
            head.clear();
            same(head, "");
        }
        Check.due("tries", head.nozzle(0, 1) > 80 ? 1 : 0, 1);
    }
}
