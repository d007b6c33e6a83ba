/** The boundaries in promises 1 to 10 and 16 to 21: the calls that build, tour, and tell what there is. */
public final class CallBoundsTest {
    public static void main(String[] args) {
        newObject();
        addFeeder();
        addPlace();
        fill();
        repair();
        fit();
        clear();
        set();
        tourTimes();
        tourPlaced();
        inspect();
        feederProperties();
        placeProperties();
        nozzleProperties();
        trust();
        counts();
        countsOfAll();
        settings();
        callsInAll();
        Check.finish();
    }

    private static void newObject() {
        Check.sentence("Creates a head without feeders and places, and with an empty buffer");
        GossipHead head = new GossipHead();
        Check.due("feeders", head.count(0), 0);
        Check.due("places", head.count(1), 0);
        Check.due("saved states", head.count(13), 0);
        Check.due("clearBuffer()", head.clearBuffer(), 0);
        // An object made behind another one must not hold anything of it.
        Bench.full();
        GossipHead next = new GossipHead();
        Check.due("digest() of the next object", next.digest(), head.digest());
        Check.due("count(3) of the next object", next.count(3), 1);
        Check.sentence("NONE = -1: There is nothing to return");
        Check.due("NONE", GossipHead.NONE, -1);
    }

    private static void addFeeder() {
        Check.sentence("IllegalStateException if there are 8 feeders");
        GossipHead head = new GossipHead();
        for (int feeder = 0; feeder < 7; feeder++) {
            head.addFeeder(0, 0, 0, 0, 0);
        }
        Check.due("addFeeder behind seven", head.addFeeder(99, 5, 500, 100, 100), 7);
        Check.badState(head, "addFeeder behind eight", () -> head.addFeeder(99, 5, 500, 100, 100));
        head.undo();
        Check.due("addFeeder behind undo()", head.addFeeder(0, 0, 0, 0, 0), 7);
        Check.badState(head, "addFeeder behind eight again", () -> head.addFeeder(0, 0, 0, 0, 0));
        Check.sentence("Adds a feeder; all nozzles trust it 50");
        int[] least = {0, 0, 0, 0, 0, 0, 0, 0, 200};
        for (int what = 0; what <= 8; what++) {
            Check.due("feeder(7, " + what + ")", head.feeder(7, what), least[what]);
        }
        GossipHead most = new GossipHead();
        most.addFeeder(99, 5, 500, 100, 100);
        int[] greatest = {99, 5, 500, 100, 100, 0, 0, 0, 200};
        for (int what = 0; what <= 8; what++) {
            Check.due("feeder(0, " + what + ")", most.feeder(0, what), greatest[what]);
        }
    }

    private static void addPlace() {
        Check.sentence("IllegalStateException if there are 24 places");
        GossipHead head = new GossipHead();
        Bench.addPlaces(head, 23);
        Check.due("addPlace behind 23", head.addPlace(99, 5), 23);
        Check.badState(head, "addPlace behind 24", () -> head.addPlace(99, 5));
        head.undo();
        Check.due("addPlace behind undo()", head.addPlace(98, 4), 23);
        Check.due("place(23, 0)", head.place(23, 0), 98);
        Check.badState(head, "addPlace behind 24 again", () -> head.addPlace(0, 0));
        Check.sentence("Adds a place (an empty one, where another was undone)");
        GossipHead used = Bench.pair(0, 0);
        used.addPlace(0, 0);
        used.tour(1);
        used.undo();
        used.undo();
        used.addPlace(5, 5);
        int[] due = {5, 5, 0, -1, -1};
        for (int what = 0; what <= 4; what++) {
            Check.due("place(1, " + what + ")", used.place(1, what), due[what]);
        }
    }

    private static void fill() {
        GossipHead head = new GossipHead();
        Check.sentence("IndexOutOfBoundsException if there is no such feeder (fill)");
        Check.noSuch(head, "fill(0, 1) without feeders", () -> head.fill(0, 1));
        head.addFeeder(0, 0, 0, 0, 0);
        Check.noSuch(head, "fill(1, 1)", () -> head.fill(1, 1));
        Check.noSuch(head, "fill(-1, 1)", () -> head.fill(-1, 1));
        Check.sentence("parts: how many parts more, 1 to 500");
        int[] beyond = {0, -1, 501, Integer.MIN_VALUE, Integer.MAX_VALUE};
        for (int parts : beyond) {
            Check.outOfRange(head, "fill(0, " + parts + ")", () -> head.fill(0, parts));
        }
        Check.due("fill(0, 500)", head.fill(0, 500), 500);
        head.undo();
        Check.due("fill(0, 1)", head.fill(0, 1), 1);
        Check.sentence("IllegalStateException if it would have more than 500");
        Check.badState(head, "fill(0, 500) of 1", () -> head.fill(0, 500));
        Check.due("fill(0, 498) of 1", head.fill(0, 498), 499);
        Check.badState(head, "fill(0, 2) of 499", () -> head.fill(0, 2));
        Check.due("fill(0, 1) of 499", head.fill(0, 1), 500);
        Check.badState(head, "fill(0, 1) of 500", () -> head.fill(0, 1));
        Check.badState(head, "fill(0, 500) of 500", () -> head.fill(0, 500));
        Check.due("parts", head.feeder(0, 2), 500);
        Check.sentence("Fills a feeder; returns how many it has then (the last of eight)");
        for (int feeder = 1; feeder < 8; feeder++) {
            head.addFeeder(0, 0, feeder, 0, 0);
        }
        Check.noSuch(head, "fill(8, 1)", () -> head.fill(8, 1));
        Check.badState(head, "fill(7, 494) of 7", () -> head.fill(7, 494));
        Check.due("fill(7, 493) of 7", head.fill(7, 493), 500);
        Check.due("parts of 6", head.feeder(6, 2), 6);
    }

    private static void repair() {
        GossipHead head = new GossipHead();
        Check.sentence("IndexOutOfBoundsException if there is no such feeder (repair)");
        Check.noSuch(head, "repair(0, 0, 0) without feeders", () -> head.repair(0, 0, 0));
        for (int feeder = 0; feeder < 8; feeder++) {
            Check.noSuch(head, "repair behind the last", () -> head.repair(head.count(0), 0, 0));
            head.addFeeder(0, 0, 0, 11, 22);
            Check.due("repair of the last", head.repair(feeder, 0, 0), 11);
        }
        Check.noSuch(head, "repair(8, 0, 0)", () -> head.repair(8, 0, 0));
        Check.noSuch(head, "repair(-1, 0, 0)", () -> head.repair(-1, 0, 0));
        Check.sentence("miss: what it misses in percent, 0 to 100; turn: what it turns over in percent, 0 to 100");
        int[] beyond = {-1, 101, Integer.MIN_VALUE, Integer.MAX_VALUE};
        for (int percent : beyond) {
            Check.outOfRange(head, "repair, miss " + percent, () -> head.repair(3, percent, 0));
            Check.outOfRange(head, "repair, turn " + percent, () -> head.repair(3, 0, percent));
        }
        int[][] within = {{0, 100}, {100, 0}, {1, 99}, {99, 1}, {100, 100}, {0, 0}};
        int missed = 0;
        for (int[] one : within) {
            Check.due("repair(3, " + one[0] + ", " + one[1] + ")", head.repair(3, one[0], one[1]), missed);
            Check.due("feeder(3, 3)", head.feeder(3, 3), one[0]);
            Check.due("feeder(3, 4)", head.feeder(3, 4), one[1]);
            missed = one[0];
        }
        Check.sentence("(What nozzles think of it stays.)");
        for (int value = 0; value <= 100; value += 50) {
            GossipHead other = Bench.pair(0, 0);
            Bench.trust(other, 2, 0, value);
            other.repair(0, 0, 0);
            other.repair(0, 100, 100);
            Check.due("trust(2, 0)", other.trust(2, 0), value);
            Check.due("trust(1, 0)", other.trust(1, 0), 50);
        }
    }

    private static void fit() {
        GossipHead head = new GossipHead();
        Check.sentence("IndexOutOfBoundsException if there is no such nozzle (fit)");
        int[] noNozzle = {-1, 4, Integer.MIN_VALUE, Integer.MAX_VALUE};
        for (int nozzle : noNozzle) {
            Check.noSuch(head, "fit(" + nozzle + ", 0)", () -> head.fit(nozzle, 0));
        }
        Check.sentence("kinds: the kinds as a bit mask, 0 to 63");
        for (int nozzle = 0; nozzle < 4; nozzle++) {
            int n = nozzle;
            int[] beyond = {-1, 64, 127, Integer.MIN_VALUE, Integer.MAX_VALUE};
            for (int kinds : beyond) {
                Check.outOfRange(head, "fit(" + n + ", " + kinds + ")", () -> head.fit(n, kinds));
            }
            int previous = 63;
            for (int kinds = 0; kinds <= 63; kinds++) {
                Check.due("fit(" + n + ", " + kinds + ")", head.fit(n, kinds), previous);
                previous = kinds;
            }
            Check.due("nozzle(" + n + ", 0)", head.nozzle(n, 0), 63);
        }
    }

    private static void clear() {
        Check.sentence("Empties the board: all places become empty; returns how many were right");
        Check.due("clear() of no places", new GossipHead().clear(), 0);
        for (int turn = 0; turn <= 100; turn += 100) {
            GossipHead head = Bench.pair(0, turn);
            head.set(3, 0);
            Check.due("clear() of an empty place", head.clear(), 0);
            Bench.addPlaces(head, 23);
            Check.due("clear() of 24 empty places", head.clear(), 0);
            head.tour(6);
            head.set(1, 50);
            int time = head.count(2);
            Check.due("clear() of 24 places", head.clear(), turn == 0 ? 24 : 0);
            Check.due("time, as no inspection", head.count(2), time);
            Check.due("found wrong, as no inspection", head.count(11), 0);
            Check.due("trust, as no inspection", head.feeder(0, 8), 200);
            Check.due("empty", head.count(6), 24);
            Check.due("nozzle of 23", head.place(23, 3), -1);
            Check.due("feeder of 23", head.place(23, 4), -1);
            Check.due("clear() again", head.clear(), 0);
        }
    }

    private static void set() {
        GossipHead head = new GossipHead();
        Check.sentence("IndexOutOfBoundsException if there is no such setting (set)");
        int[] noSetting = {-1, 5, Integer.MIN_VALUE, Integer.MAX_VALUE};
        for (int setting : noSetting) {
            Check.noSuch(head, "set(" + setting + ", 0)", () -> head.set(setting, 0));
        }
        Check.sentence("IllegalArgumentException if value is out of range");
        int[] greatest = {5, 50, 50, 100, 100};
        for (int setting = 0; setting < 5; setting++) {
            int s = setting;
            Check.outOfRange(head, "set(" + s + ", -1)", () -> head.set(s, -1));
            Check.outOfRange(head, "set(" + s + ", too much)", () -> head.set(s, greatest[s] + 1));
            head.set(s, greatest[s]);
            Check.due("set(" + s + ", 0)", head.set(s, 0), greatest[s]);
            Check.due("set(" + s + ", 1)", head.set(s, 1), 0);
        }
    }

    private static void tourTimes() {
        Check.sentence("times: 1 to 20; IllegalArgumentException if times is out of range");
        GossipHead head = Bench.pair(50, 50);
        int[] beyond = {0, -1, 21, Integer.MIN_VALUE, Integer.MAX_VALUE};
        for (int times : beyond) {
            Check.outOfRange(head, "tour(" + times + ")", () -> head.tour(times));
        }
        int tours = 0;
        for (int times = 1; times <= 20; times++) {
            head.tour(times);
            tours += times;
            Check.due("tours behind tour(" + times + ")", head.count(5), tours);
        }
    }

    private static void tourPlaced() {
        Check.sentence("Returns how many parts are placed in them");
        for (int places = 0; places <= 24; places++) {
            GossipHead head = Bench.still();
            head.set(3, 0);
            head.addFeeder(0, 0, 500, 0, 100);
            Bench.addPlaces(head, places);
            Check.due("tour(1) with " + places + " places", head.tour(1), Math.min(places, 4));
            head.undo();
            Check.due("tour(5) with " + places + " places", head.tour(5), Math.min(places, 20));
            head.undo();
            Check.due("tour(6) with " + places + " places", head.tour(6), places);
            Check.due("tour(20) with none left", head.tour(20), 0);
        }
        GossipHead seen = Bench.pair(0, 100);
        seen.set(3, 100);
        Check.due("tour(20) of parts that are thrown away", seen.tour(20), 0);
        GossipHead missing = Bench.pair(100, 0);
        Check.due("tour(20) of misses", missing.tour(20), 0);
        GossipHead few = Bench.still();
        few.addFeeder(0, 0, 3, 0, 0);
        Bench.addPlaces(few, 24);
        Check.due("tour(20) with three parts", few.tour(20), 3);
    }

    private static void inspect() {
        Check.sentence("Inspects the board; returns how many places were wrong");
        for (int places = 0; places <= 24; places++) {
            GossipHead head = Bench.still();
            head.set(3, 0);
            head.addFeeder(0, 0, 500, 0, 100);
            Bench.addPlaces(head, places);
            head.tour(6);
            Check.due("inspect() of " + places + " wrong places", head.inspect(), places);
            Check.due("inspect() again", head.inspect(), 0);
            Check.due("found so far", head.count(11), places);
        }
    }

    private static void feederProperties() {
        Check.sentence("IndexOutOfBoundsException if there is no such feeder (feeder)");
        GossipHead head = Bench.pair(0, 0);
        int[] beyond = {-1, 1, 8, Integer.MIN_VALUE, Integer.MAX_VALUE};
        for (int feeder : beyond) {
            Check.noSuch(head, "feeder(" + feeder + ", 0)", () -> head.feeder(feeder, 0));
        }
        Check.sentence("IllegalArgumentException if what is not 0 to 8");
        int[] noWhat = {-1, 9, Integer.MIN_VALUE, Integer.MAX_VALUE};
        for (int what : noWhat) {
            Check.outOfRange(head, "feeder(0, " + what + ")", () -> head.feeder(0, what));
        }
        Check.due("feeder(0, 0)", head.feeder(0, 0), 0);
        Check.due("feeder(0, 8)", head.feeder(0, 8), 200);
        Check.sentence("5: tries at it so far; 6: misses so far; 7: parts from it that were seen turned over so far");
        // What it misses, turns over, and sight; then the tries, misses and parts that were seen turned over.
        int[][] cases = {{100, 0, 100, 4, 4, 0}, {0, 0, 100, 4, 0, 0}, {0, 100, 0, 4, 0, 0}, {0, 100, 100, 4, 0, 4}};
        for (int[] one : cases) {
            GossipHead four = Bench.pair(one[0], one[1]);
            four.addFeeder(0, 0, 500, 100, 100);
            four.set(3, one[2]);
            Bench.addPlaces(four, 3);
            for (int what = 5; what <= 7; what++) {
                Check.due("feeder(0, " + what + ") of none", four.feeder(0, what), 0);
            }
            four.tour(1);
            for (int what = 5; what <= 7; what++) {
                Check.due("feeder(0, " + what + ") of four", four.feeder(0, what), one[what - 2]);
                Check.due("feeder(1, " + what + ")", four.feeder(1, what), 0);
            }
        }
        Check.sentence("8: the sum of what the nozzles trust it");
        int[] trusts = {0, 100};
        for (int value : trusts) {
            GossipHead all = Bench.pair(0, 0);
            for (int nozzle = 0; nozzle < 4; nozzle++) {
                Bench.trust(all, nozzle, 0, value);
                Check.due("sum", all.feeder(0, 8), 200 + (nozzle + 1) * (value - 50));
            }
        }
    }

    private static void placeProperties() {
        Check.sentence("IndexOutOfBoundsException if there is no such place");
        GossipHead head = Bench.pair(0, 0);
        int[] beyond = {-1, 1, 24, Integer.MIN_VALUE, Integer.MAX_VALUE};
        for (int place : beyond) {
            Check.noSuch(head, "place(" + place + ", 0)", () -> head.place(place, 0));
        }
        Check.sentence("IllegalArgumentException if what is not 0 to 4 (place)");
        int[] noWhat = {-1, 5, Integer.MIN_VALUE, Integer.MAX_VALUE};
        for (int what : noWhat) {
            Check.outOfRange(head, "place(0, " + what + ")", () -> head.place(0, what));
        }
        Check.sentence("3: the nozzle that placed its part, NONE if it is empty;"
            + " 4: the feeder from which that was, NONE if it is empty");
        Check.due("place(0, 3), empty", head.place(0, 3), GossipHead.NONE);
        Check.due("place(0, 4), empty", head.place(0, 4), GossipHead.NONE);
        head.tour(1);
        Check.due("place(0, 3), of nozzle 0", head.place(0, 3), 0);
        Check.due("place(0, 4), of feeder 0", head.place(0, 4), 0);
        head.clear();
        Check.due("place(0, 3), cleared", head.place(0, 3), GossipHead.NONE);
        Check.due("place(0, 4), cleared", head.place(0, 4), GossipHead.NONE);
        GossipHead last = Bench.still();
        for (int feeder = 0; feeder < 7; feeder++) {
            last.addFeeder(0, 1, 9, 0, 0);
        }
        last.addFeeder(0, 0, 9, 0, 100);
        Bench.addPlaces(last, 4);
        last.set(3, 0);
        last.tour(1);
        Check.due("place(3, 3), of nozzle 3", last.place(3, 3), 3);
        Check.due("place(3, 4), of feeder 7", last.place(3, 4), 7);
        last.inspect();
        Check.due("place(3, 3), inspected", last.place(3, 3), GossipHead.NONE);
        Check.due("place(3, 4), inspected", last.place(3, 4), GossipHead.NONE);
    }

    private static void nozzleProperties() {
        Check.sentence("IndexOutOfBoundsException if there is no such nozzle (nozzle)");
        GossipHead head = Bench.pair(0, 0);
        int[] beyond = {-1, 4, Integer.MIN_VALUE, Integer.MAX_VALUE};
        for (int nozzle : beyond) {
            Check.noSuch(head, "nozzle(" + nozzle + ", 0)", () -> head.nozzle(nozzle, 0));
        }
        Check.sentence("IllegalArgumentException if what is not 0 to 4 (nozzle)");
        int[] noWhat = {-1, 5, Integer.MIN_VALUE, Integer.MAX_VALUE};
        for (int what : noWhat) {
            Check.outOfRange(head, "nozzle(3, " + what + ")", () -> head.nozzle(3, what));
        }
        Check.sentence("1: tries so far; 2: misses so far; 3: parts that it placed so far; 4: parts that it threw away"
            + " so far (none, and one)");
        int[][] cases = {{100, 0, 0, 1, 1, 0, 0}, {0, 0, 0, 1, 0, 1, 0}, {0, 100, 0, 1, 0, 1, 0},
            {0, 100, 100, 1, 0, 0, 1}};
        for (int[] one : cases) {
            for (int nozzle = 0; nozzle < 4; nozzle++) {
                GossipHead other = Bench.pair(one[0], one[1]);
                other.set(3, one[2]);
                Bench.fitOnly(other, nozzle, 1);
                other.tour(1);
                for (int n = 0; n < 4; n++) {
                    for (int what = 1; what <= 4; what++) {
                        int due = n == nozzle ? one[2 + what] : 0;
                        Check.due("nozzle(" + n + ", " + what + ")", other.nozzle(n, what), due);
                    }
                }
            }
        }
    }

    private static void trust() {
        Check.sentence("IndexOutOfBoundsException if there is no such nozzle or feeder");
        GossipHead head = Bench.pair(0, 0);
        int[] noNozzle = {-1, 4, Integer.MIN_VALUE, Integer.MAX_VALUE};
        for (int nozzle : noNozzle) {
            Check.noSuch(head, "trust(" + nozzle + ", 0)", () -> head.trust(nozzle, 0));
        }
        int[] noFeeder = {-1, 1, 8, Integer.MIN_VALUE, Integer.MAX_VALUE};
        for (int feeder : noFeeder) {
            Check.noSuch(head, "trust(0, " + feeder + ")", () -> head.trust(0, feeder));
            Check.noSuch(head, "trust(3, " + feeder + ")", () -> head.trust(3, feeder));
        }
        for (int feeder = 1; feeder < 8; feeder++) {
            head.addFeeder(0, 1, 0, 0, 0);
        }
        Check.due("trust(3, 7)", head.trust(3, 7), 50);
        Check.noSuch(head, "trust(3, 8)", () -> head.trust(3, 8));
    }

    private static void counts() {
        Check.sentence("IllegalArgumentException if what is not 0 to 13");
        GossipHead head = new GossipHead();
        int[] noWhat = {-1, 14, Integer.MIN_VALUE, Integer.MAX_VALUE};
        for (int what : noWhat) {
            Check.outOfRange(head, "count(" + what + ")", () -> head.count(what));
        }
        Check.due("count(0)", head.count(0), 0);
        Check.due("count(13)", head.count(13), 0);
        Check.sentence("6: places that are empty; 7: places that are right; 8: places that are wrong");
        for (int turn = 0; turn <= 100; turn += 100) {
            GossipHead board = Bench.pair(0, turn);
            board.set(3, 0);
            Bench.addPlaces(board, 23);
            for (int tours = 0; tours <= 6; tours++) {
                Check.due("empty", board.count(6), 24 - 4 * tours);
                Check.due("right", board.count(7), turn == 0 ? 4 * tours : 0);
                Check.due("wrong", board.count(8), turn == 0 ? 0 : 4 * tours);
                board.tour(1);
            }
        }
    }

    private static void countsOfAll() {
        Check.sentence("12: parts of all feeders; 13: saved states");
        GossipHead head = new GossipHead();
        for (int feeder = 1; feeder <= 8; feeder++) {
            head.addFeeder(0, 0, 500, 0, 0);
            Check.due("parts of " + feeder + " full feeders", head.count(12), 500 * feeder);
            Check.due("saved states behind " + feeder, head.count(13), Math.min(feeder, 6));
        }
        GossipHead none = new GossipHead();
        none.addFeeder(0, 0, 0, 0, 0);
        Check.due("parts of an empty feeder", none.count(12), 0);
        Check.sentence("9: misses so far; 10: parts that were thrown away so far; 11: places that were found wrong by"
            + " inspections so far");
        GossipHead four = Bench.pair(100, 0);
        Bench.addPlaces(four, 3);
        four.tour(20);
        Check.due("misses", four.count(9), 80);
        Check.due("thrown away", four.count(10), 0);
        four.repair(0, 0, 100);
        four.set(3, 100);
        four.tour(20);
        Check.due("misses", four.count(9), 80);
        Check.due("thrown away", four.count(10), 80);
        four.set(3, 0);
        four.tour(1);
        four.clear();
        four.tour(1);
        Check.due("found wrong", four.count(11), 0);
        four.inspect();
        Check.due("found wrong", four.count(11), 4);
        Check.due("seen turned over", four.feeder(0, 7), 80);
        Check.due("tours", four.count(5), 42);
    }

    private static void settings() {
        Check.sentence("IndexOutOfBoundsException if there is no such setting (setting)");
        GossipHead head = new GossipHead();
        int[] noSetting = {-1, 5, Integer.MIN_VALUE, Integer.MAX_VALUE};
        for (int setting : noSetting) {
            Check.noSuch(head, "setting(" + setting + ")", () -> head.setting(setting));
        }
        int[] first = {2, 20, 5, 80, 50};
        for (int setting = 0; setting < 5; setting++) {
            Check.due("setting(" + setting + ")", head.setting(setting), first[setting]);
        }
    }

    /** The dearest way through 512 calls: the greatest distances, tries and counts that there are. */
    private static void callsInAll() {
        Check.sentence("An object is used for at most 512 calls after it has been made");
        GossipHead head = Bench.still();
        head.set(0, 5);
        head.addFeeder(0, 0, 500, 100, 0);
        head.addFeeder(99, 1, 500, 100, 0);
        head.addPlace(0, 0);
        head.addPlace(99, 1);
        head.addPlace(0, 0);
        head.addPlace(99, 1);
        int tours = 0;
        for (int call = 10; call < 508; call++) {
            head.tour(20);
            tours += 20;
        }
        Check.due("tours", head.count(5), tours);
        Check.due("misses", head.count(9), 24 * tours);
        // The first tour starts at 0, each other one at 99.
        Check.due("time", head.count(2), tours * (24 * 2 + 3 * 99) + (tours - 1) * 99);
        Check.due("the last call, tries", head.nozzle(3, 1), 6 * tours);
    }
}
