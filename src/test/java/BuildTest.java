/** Promises 1 to 8: a new object, addFeeder, addPlace, fill, repair, fit, clear, set. */
public final class BuildTest {
    public static void main(String[] args) {
        newObject();
        addFeeder();
        addPlace();
        fill();
        repair();
        fit();
        clear();
        set();
        Check.finish();
    }

    private static void newObject() {
        GossipHead head = new GossipHead();
        for (int what = 0; what <= 13; what++) {
            Check.due("new count(" + what + ")", head.count(what), what == 3 ? 1 : 0);
        }
        int[] settings = {2, 20, 5, 80, 50};
        for (int setting = 0; setting < 5; setting++) {
            Check.due("new setting(" + setting + ")", head.setting(setting), settings[setting]);
        }
        for (int nozzle = 0; nozzle < 4; nozzle++) {
            Check.due("new nozzle(" + nozzle + ", 0)", head.nozzle(nozzle, 0), 63);
            for (int what = 1; what <= 4; what++) {
                Check.due("new nozzle(" + nozzle + ", " + what + ")", head.nozzle(nozzle, what), 0);
            }
        }
        Check.due("new firstError()", head.firstError(), 0);
        Check.due("new clearBuffer()", head.clearBuffer(), 0);
        Check.due("NONE", GossipHead.NONE, -1);
    }

    private static void addFeeder() {
        GossipHead head = new GossipHead();
        feederRanges(head);
        long before = head.digest();
        Check.due("addFeeder(99, 5, 500, 100, 100)", head.addFeeder(99, 5, 500, 100, 100), 0);
        Check.undone(head, "addFeeder", before, 0);
        Check.due("addFeeder(12, 3, 45, 67, 89)", head.addFeeder(12, 3, 45, 67, 89), 0);
        int[] due = {12, 3, 45, 67, 89, 0, 0, 0, 200};
        for (int what = 0; what <= 8; what++) {
            Check.due("feeder(0, " + what + ")", head.feeder(0, what), due[what]);
        }
        for (int number = 1; number < 8; number++) {
            Check.due("addFeeder " + number, head.addFeeder(0, 0, 0, 0, 0), number);
            for (int nozzle = 0; nozzle < 4; nozzle++) {
                Check.due("trust in feeder " + number, head.trust(nozzle, number), 50);
            }
        }
        Check.badState(head, "addFeeder, the ninth", () -> head.addFeeder(0, 0, 0, 0, 0));
        Check.outOfRange(head, "addFeeder, the ninth, at 100", () -> head.addFeeder(100, 0, 0, 0, 0));
        Check.due("feeders", head.count(0), 8);
    }

    private static void feederRanges(GossipHead head) {
        Check.outOfRange(head, "addFeeder x -1", () -> head.addFeeder(-1, 0, 0, 0, 0));
        Check.outOfRange(head, "addFeeder x 100", () -> head.addFeeder(100, 0, 0, 0, 0));
        Check.outOfRange(head, "addFeeder kind -1", () -> head.addFeeder(0, -1, 0, 0, 0));
        Check.outOfRange(head, "addFeeder kind 6", () -> head.addFeeder(0, 6, 0, 0, 0));
        Check.outOfRange(head, "addFeeder parts -1", () -> head.addFeeder(0, 0, -1, 0, 0));
        Check.outOfRange(head, "addFeeder parts 501", () -> head.addFeeder(0, 0, 501, 0, 0));
        Check.outOfRange(head, "addFeeder miss -1", () -> head.addFeeder(0, 0, 0, -1, 0));
        Check.outOfRange(head, "addFeeder miss 101", () -> head.addFeeder(0, 0, 0, 101, 0));
        Check.outOfRange(head, "addFeeder turn -1", () -> head.addFeeder(0, 0, 0, 0, -1));
        Check.outOfRange(head, "addFeeder turn 101", () -> head.addFeeder(0, 0, 0, 0, 101));
        Check.outOfRange(head, "addFeeder least", () -> head.addFeeder(Integer.MIN_VALUE, 0, 0, 0, 0));
        Check.outOfRange(head, "addFeeder greatest", () -> head.addFeeder(0, 0, Integer.MAX_VALUE, 0, 0));
    }

    private static void addPlace() {
        GossipHead head = new GossipHead();
        Check.outOfRange(head, "addPlace x -1", () -> head.addPlace(-1, 0));
        Check.outOfRange(head, "addPlace x 100", () -> head.addPlace(100, 0));
        Check.outOfRange(head, "addPlace kind -1", () -> head.addPlace(0, -1));
        Check.outOfRange(head, "addPlace kind 6", () -> head.addPlace(0, 6));
        long before = head.digest();
        Check.due("addPlace(99, 5)", head.addPlace(99, 5), 0);
        Check.undone(head, "addPlace", before, 0);
        for (int number = 0; number < 24; number++) {
            Check.due("addPlace " + number, head.addPlace(number * 4, number % 6), number);
            int[] due = {number * 4, number % 6, 0, -1, -1};
            for (int what = 0; what <= 4; what++) {
                Check.due("place(" + number + ", " + what + ")", head.place(number, what), due[what]);
            }
        }
        Check.badState(head, "addPlace, the 25th", () -> head.addPlace(0, 0));
        Check.outOfRange(head, "addPlace, the 25th, of kind 6", () -> head.addPlace(0, 6));
        Check.due("places", head.count(1), 24);
    }

    private static void fill() {
        GossipHead head = new GossipHead();
        Check.noSuch(head, "fill without feeders", () -> head.fill(0, 1));
        head.addFeeder(1, 2, 3, 4, 5);
        head.addFeeder(6, 1, 0, 0, 0);
        Check.noSuch(head, "fill feeder -1", () -> head.fill(-1, 0));
        Check.noSuch(head, "fill feeder 2", () -> head.fill(2, 501));
        Check.outOfRange(head, "fill 0 parts", () -> head.fill(0, 0));
        Check.outOfRange(head, "fill -1 parts", () -> head.fill(0, -1));
        Check.outOfRange(head, "fill 501 parts", () -> head.fill(0, 501));
        Check.outOfRange(head, "fill the most parts", () -> head.fill(0, Integer.MAX_VALUE));
        Check.badState(head, "fill 498 to 3", () -> head.fill(0, 498));
        Check.badState(head, "fill 500 to 3", () -> head.fill(0, 500));
        long before = head.digest();
        Check.due("fill(0, 1)", head.fill(0, 1), 4);
        Check.undone(head, "fill", before, 2);
        Check.due("fill(0, 497)", head.fill(0, 497), 500);
        Check.due("fill(1, 500)", head.fill(1, 500), 500);
        Check.badState(head, "fill a full one", () -> head.fill(1, 1));
        Check.due("feeder(0, 2)", head.feeder(0, 2), 500);
        Check.due("count(12)", head.count(12), 1000);
    }

    private static void repair() {
        GossipHead head = new GossipHead();
        Check.noSuch(head, "repair without feeders", () -> head.repair(0, 0, 0));
        head.addFeeder(1, 2, 3, 44, 55);
        Check.noSuch(head, "repair feeder 1", () -> head.repair(1, 101, 0));
        Check.noSuch(head, "repair feeder -1", () -> head.repair(-1, 0, 0));
        Check.outOfRange(head, "repair miss -1", () -> head.repair(0, -1, 0));
        Check.outOfRange(head, "repair miss 101", () -> head.repair(0, 101, 0));
        Check.outOfRange(head, "repair turn -1", () -> head.repair(0, 0, -1));
        Check.outOfRange(head, "repair turn 101", () -> head.repair(0, 0, 101));
        long before = head.digest();
        Check.due("repair(0, 100, 0)", head.repair(0, 100, 0), 44);
        Check.due("miss", head.feeder(0, 3), 100);
        Check.due("turn", head.feeder(0, 4), 0);
        Check.undone(head, "repair", before, 1);
        head.addPlace(0, 2);
        head.repair(0, 100, 7);
        head.tour(1);
        int trust = head.trust(0, 0);
        Check.due("repair(0, 0, 100)", head.repair(0, 0, 100), 100);
        Check.due("trust stays", head.trust(0, 0), trust);
        Check.due("tries stay", head.feeder(0, 5), 3);
        Check.due("misses stay", head.feeder(0, 6), 3);
        Check.due("parts stay", head.feeder(0, 2), 3);
    }

    private static void fit() {
        GossipHead head = new GossipHead();
        Check.noSuch(head, "fit nozzle -1", () -> head.fit(-1, 0));
        Check.noSuch(head, "fit nozzle 4", () -> head.fit(4, 64));
        Check.outOfRange(head, "fit kinds -1", () -> head.fit(0, -1));
        Check.outOfRange(head, "fit kinds 64", () -> head.fit(3, 64));
        long before = head.digest();
        Check.due("fit(3, 0)", head.fit(3, 0), 63);
        Check.due("fits none", head.nozzle(3, 0), 0);
        Check.undone(head, "fit", before, 0);
        Check.due("fit(3, 5)", head.fit(3, 5), 63);
        Check.due("fit(3, 5) again", head.fit(3, 5), 5);
        Check.due("fit(3, 63)", head.fit(3, 63), 5);
        Check.due("saved states", head.count(13), 3);
        head.addFeeder(0, 4, 9, 0, 0);
        head.addPlace(0, 4);
        head.fit(0, 63 - 16);
        head.fit(1, 16);
        Check.due("aim(0) does not fit", head.aim(0), -1);
        Check.due("aim(1) fits", head.aim(1), 0);
    }

    private static void clear() {
        GossipHead head = new GossipHead();
        Check.due("clear() without places", head.clear(), 0);
        Check.due("saved states", head.count(13), 1);
        head.addFeeder(0, 0, 9, 0, 0);
        head.addFeeder(0, 1, 9, 0, 100);
        head.set(3, 0);
        for (int place = 0; place < 4; place++) {
            head.addPlace(place, place == 0 ? 1 : 0);
        }
        Check.due("tour(1)", head.tour(1), 4);
        head.addPlace(9, 0);
        int time = head.count(2);
        int trust = head.trust(0, 1);
        Check.leaveRoom(head);
        long before = head.digest();
        Check.due("clear()", head.clear(), 3);
        Check.due("empty", head.count(6), 5);
        Check.due("right", head.count(7), 0);
        Check.due("wrong", head.count(8), 0);
        Check.due("found by inspections", head.count(11), 0);
        Check.due("time", head.count(2), time);
        Check.due("trust", head.trust(0, 1), trust);
        Check.due("placed so far", head.nozzle(0, 3), 1);
        Check.due("place(0, 3)", head.place(0, 3), -1);
        Check.due("place(0, 4)", head.place(0, 4), -1);
        Check.undone(head, "clear", before, 5);
    }

    private static void set() {
        GossipHead head = new GossipHead();
        int[] first = {2, 20, 5, 80, 50};
        int[] greatest = {5, 50, 50, 100, 100};
        Check.noSuch(head, "set(-1, 0)", () -> head.set(-1, 0));
        Check.noSuch(head, "set(5, -1)", () -> head.set(5, -1));
        for (int setting = 0; setting < 5; setting++) {
            int s = setting;
            Check.outOfRange(head, "set " + s + " to -1", () -> head.set(s, -1));
            Check.outOfRange(head, "set " + s + " too far", () -> head.set(s, greatest[s] + 1));
            long before = head.digest();
            Check.due("set " + s + " to the greatest", head.set(s, greatest[s]), first[s]);
            Check.due("setting " + s, head.setting(s), greatest[s]);
            Check.due("set " + s + " to 0", head.set(s, 0), greatest[s]);
            Check.due("setting " + s, head.setting(s), 0);
            head.undo();
            Check.undone(head, "set", before, 0);
        }
        head.set(0, 2);
        Check.due("saved states though nothing changed", head.count(13), 1);
    }
}
