import java.util.ArrayList;
import java.util.List;

/** The boundaries of undo, and of exceptions: refused calls, and which exception is thrown first. */
public final class UndoBoundsTest {
    private static final Class<?> ARGUMENT = IllegalArgumentException.class;
    private static final Class<?> INDEX = IndexOutOfBoundsException.class;
    private static final Class<?> STATE = IllegalStateException.class;
    private static final int LEAST = Integer.MIN_VALUE;
    private static final int MOST = Integer.MAX_VALUE;

    /** A call that is refused, and how. */
    private static final class Refusal {
        final String name;
        final Class<?> due;
        final Check.Call call;

        Refusal(String name, Class<?> due, Check.Call call) {
            this.name = name;
            this.due = due;
            this.call = call;
        }
    }

    public static void main(String[] args) {
        eachUndoableSaves();
        savesThoughNothingChanges();
        othersSaveNothing();
        mostSaved();
        noneSaved();
        allComesBack();
        distanceComesBack();
        bufferStays();
        savedStatesStay();
        refusedByNewHead();
        refusedByFullHead();
        refusedSaveNothing();
        firstNamed();
        Check.finish();
    }

    private static void eachUndoableSaves() {
        Check.sentence("Each method that is marked \"undoable\" and does not throw an exception saves the state from"
            + " before it");
        GossipHead head = Bench.pair(0, 100);
        undoable(head, "addFeeder", () -> head.addFeeder(1, 1, 1, 1, 1));
        undoable(head, "addPlace", () -> head.addPlace(1, 1));
        head.tour(1);
        undoable(head, "fill", () -> head.fill(0, 1));
        undoable(head, "repair", () -> head.repair(0, 1, 1));
        undoable(head, "fit", () -> head.fit(0, 1));
        undoable(head, "clear", () -> head.clear());
        undoable(head, "set", () -> head.set(0, 1));
        undoable(head, "inspect", () -> head.inspect());
        head.clear();
        undoable(head, "tour", () -> head.tour(1));
        undoable(head, "tour of 20", () -> head.tour(20));
        GossipHead reading = Bench.pair(0, 0);
        Check.leaveRoom(reading);
        long before = reading.digest();
        Check.type(reading, "p1:1");
        int saved = reading.count(13);
        reading.read();
        Check.undone(reading, "read", before, saved);
    }

    private static void undoable(GossipHead head, String name, Check.Call call) {
        Check.leaveRoom(head);
        long before = head.digest();
        int saved = head.count(13);
        call.run();
        Check.due("digest() is another one behind " + name, head.digest() != before ? 1 : 0, 1);
        Check.undone(head, name, before, saved);
    }

    private static void savesThoughNothingChanges() {
        Check.sentence("saves the state from before it (also if it changes nothing)");
        GossipHead head = new GossipHead();
        head.addFeeder(0, 0, 0, 7, 8);
        saves(head, "repair", () -> head.repair(0, 7, 8));
        saves(head, "fit", () -> head.fit(2, 63));
        saves(head, "clear without places", () -> head.clear());
        saves(head, "set", () -> head.set(4, 50));
        saves(head, "tour without places", () -> head.tour(1));
        head.addPlace(0, 0);
        saves(head, "tour without parts", () -> head.tour(1));
        saves(head, "clear of an empty board", () -> head.clear());
        saves(head, "inspect of an empty board", () -> head.inspect());
        GossipHead full = new GossipHead();
        Bench.addPlaces(full, 24);
        Check.leaveRoom(full);
        Check.type(full, "p0:0");
        saves(full, "read that adds none", () -> full.read());
    }

    private static void saves(GossipHead head, String name, Check.Call call) {
        Check.leaveRoom(head);
        int saved = head.count(13);
        call.run();
        Check.due("saved states behind " + name, head.count(13), saved + 1);
        Check.due("undo() of " + name, head.undo(), saved);
    }

    private static void othersSaveNothing() {
        Check.sentence("Each method that is marked \"undoable\" saves the state (the others do not)");
        GossipHead head = Bench.pair(50, 50);
        head.undo();
        head.append('p');
        head.clearBuffer();
        head.firstError();
        head.feeder(0, 0);
        head.nozzle(0, 0);
        head.trust(0, 0);
        head.count(0);
        head.setting(0);
        head.ifToured(20, 0);
        head.choice(0, 0);
        head.aim(0);
        head.needed();
        head.rumored();
        head.missShare();
        head.digest();
        Check.due("saved states", head.count(13), 5);
        head.addPlace(0, 0);
        head.place(0, 0);
        Check.due("saved states", head.count(13), 6);
        for (int left = 5; left >= 0; left--) {
            Check.due("undo()", head.undo(), left);
        }
    }

    private static void mostSaved() {
        Check.sentence("At most 6 states are saved; the oldest one is dropped first");
        for (int calls = 1; calls <= 14; calls++) {
            GossipHead head = new GossipHead();
            for (int x = 1; x <= calls; x++) {
                head.addPlace(x, 0);
                Check.due("count(13) behind " + x, head.count(13), Math.min(x, 6));
            }
            int kept = Math.min(calls, 6);
            for (int left = kept - 1; left >= 0; left--) {
                Check.due("undo() of " + calls, head.undo(), left);
                Check.due("places", head.count(1), calls - kept + left);
            }
            Check.badState(head, "undo() beyond the oldest", () -> head.undo());
            Check.due("places that stay", head.count(1), calls - kept);
        }
    }

    private static void noneSaved() {
        Check.sentence("IllegalStateException if there is none");
        GossipHead head = new GossipHead();
        Check.badState(head, "undo() of a new head", () -> head.undo());
        head.append('p');
        Check.badState(head, "undo() behind append", () -> head.undo());
        head.clear();
        Check.due("undo() of one", head.undo(), 0);
        Check.badState(head, "undo() again", () -> head.undo());
        Check.badState(head, "undo() once more", () -> head.undo());
        head.clear();
        head.clear();
        Check.due("undo() of two", head.undo(), 1);
        Check.due("undo() of one", head.undo(), 0);
        Check.badState(head, "undo() then", () -> head.undo());
    }

    private static void allComesBack() {
        Check.sentence("all, also what is counted so far");
        GossipHead head = new GossipHead();
        head.set(3, 50);
        head.addFeeder(10, 0, 200, 30, 60);
        head.addFeeder(80, 1, 200, 30, 60);
        for (int place = 0; place < 6; place++) {
            head.addPlace(place * 15, place % 2);
        }
        head.tour(2);
        head.inspect();
        head.tour(1);
        List<Long> before = values(head);
        Check.leaveRoom(head);
        head.tour(20);
        head.undo();
        compare("behind undo() of tour(20)", values(head), before);
        head.inspect();
        head.undo();
        compare("behind undo() of inspect()", values(head), before);
        head.clear();
        head.undo();
        compare("behind undo() of clear()", values(head), before);
        head.repair(1, 99, 99);
        head.fit(0, 0);
        head.set(0, 0);
        head.fill(0, 1);
        head.undo();
        head.undo();
        head.undo();
        head.undo();
        compare("behind four times undo()", values(head), before);
    }

    private static void distanceComesBack() {
        Check.sentence("all (the distance of the head)");
        GossipHead head = Bench.still();
        head.addFeeder(0, 0, 9, 0, 0);
        head.addPlace(99, 0);
        head.tour(1);
        Check.due("count(4)", head.count(4), 99);
        head.undo();
        Check.due("count(4) behind undo()", head.count(4), 0);
        Check.due("ifToured(1, 2) from 0", head.ifToured(1, 2), 0 + 2 + 99 + 1);
        head.tour(1);
        head.clear();
        Check.due("ifToured(1, 2) from 99", head.ifToured(1, 2), 99 + 2 + 99 + 1);
        head.fill(0, 1);
        head.tour(1);
        head.undo();
        Check.due("count(4) behind another undo()", head.count(4), 99);
    }

    private static void compare(String when, List<Long> got, List<Long> due) {
        Check.due("values " + when, got.size(), due.size());
        for (int i = 0; i < Math.min(got.size(), due.size()); i++) {
            Check.due("value " + i + " " + when, got.get(i), due.get(i));
        }
    }

    /** All that a head tells of its state, but the number of saved states. */
    private static List<Long> values(GossipHead head) {
        List<Long> values = new ArrayList<>();
        for (int what = 0; what <= 12; what++) {
            values.add((long) head.count(what));
        }
        for (int setting = 0; setting < 5; setting++) {
            values.add((long) head.setting(setting));
        }
        for (int i = 0; i < 9 * head.count(0); i++) {
            values.add((long) head.feeder(i / 9, i % 9));
        }
        for (int i = 0; i < 4 * head.count(0); i++) {
            values.add((long) head.trust(i % 4, i / 4));
        }
        for (int i = 0; i < 3 * head.count(1); i++) {
            values.add((long) head.place(i / 3, 2 + i % 3));
        }
        for (int i = 0; i < 20; i++) {
            values.add((long) head.nozzle(i / 5, i % 5));
        }
        values.add(Double.doubleToLongBits(head.missShare()));
        return values;
    }

    private static void bufferStays() {
        Check.sentence("but the buffer");
        GossipHead head = new GossipHead();
        head.append('p');
        head.addPlace(1, 1);
        Check.type(head, "12:3");
        Check.due("undo()", head.undo(), 0);
        Check.due("firstError()", head.firstError(), 5);
        Check.due("read()", head.read(), 1);
        Check.due("undo() of read()", head.undo(), 0);
        Check.due("clearBuffer()", head.clearBuffer(), 0);
        Check.type(head, "f");
        head.clear();
        head.clearBuffer();
        head.undo();
        Check.due("clearBuffer() behind undo()", head.clearBuffer(), 0);
    }

    private static void savedStatesStay() {
        Check.sentence("and the saved states");
        GossipHead head = new GossipHead();
        for (int x = 0; x < 6; x++) {
            head.addPlace(x, 0);
        }
        head.undo();
        head.undo();
        head.addPlace(90, 0);
        Check.due("count(13)", head.count(13), 5);
        head.addPlace(91, 0);
        head.addPlace(92, 0);
        Check.due("count(13)", head.count(13), 6);
        int[] last = {92, 91, 90, 3, 2, 1};
        for (int i = 0; i < 6; i++) {
            Check.due("x of the last place", head.place(head.count(1) - 1, 0), last[i]);
            Check.due("undo()", head.undo(), 5 - i);
        }
        Check.due("places", head.count(1), 1);
        Check.due("x of place 0", head.place(0, 0), 0);
    }

    /** Calls that no head with less than 8 feeders, 24 places and 60 characters takes. */
    private static List<Refusal> refusedByAll(GossipHead h) {
        List<Refusal> all = new ArrayList<>();
        int[] none = {-1, 8, LEAST, MOST};
        for (int feeder : none) {
            all.add(new Refusal("fill of feeder " + feeder, INDEX, () -> h.fill(feeder, 1)));
            all.add(new Refusal("repair of feeder " + feeder, INDEX, () -> h.repair(feeder, 0, 0)));
            all.add(new Refusal("feeder " + feeder, INDEX, () -> h.feeder(feeder, 0)));
            all.add(new Refusal("trust in feeder " + feeder, INDEX, () -> h.trust(0, feeder)));
        }
        int[] noNozzle = {-1, 4, LEAST, MOST};
        for (int nozzle : noNozzle) {
            all.add(new Refusal("fit of nozzle " + nozzle, INDEX, () -> h.fit(nozzle, 0)));
            all.add(new Refusal("nozzle " + nozzle, INDEX, () -> h.nozzle(nozzle, 0)));
            all.add(new Refusal("trust of nozzle " + nozzle, INDEX, () -> h.trust(nozzle, 0)));
            all.add(new Refusal("choice of nozzle " + nozzle, INDEX, () -> h.choice(nozzle, 0)));
            all.add(new Refusal("aim of nozzle " + nozzle, INDEX, () -> h.aim(nozzle)));
        }
        int[] noSetting = {-1, 5, LEAST, MOST};
        for (int setting : noSetting) {
            all.add(new Refusal("set of " + setting, INDEX, () -> h.set(setting, 0)));
            all.add(new Refusal("setting " + setting, INDEX, () -> h.setting(setting)));
        }
        int[] noPlace = {-1, 24, LEAST, MOST};
        for (int place : noPlace) {
            all.add(new Refusal("place " + place, INDEX, () -> h.place(place, 0)));
        }
        return all;
    }

    private static List<Refusal> refusedArguments(GossipHead h) {
        List<Refusal> all = new ArrayList<>();
        int[] wrong = {-1, LEAST, MOST};
        for (int w : wrong) {
            all.add(new Refusal("addFeeder at " + w, ARGUMENT, () -> h.addFeeder(w, 0, 0, 0, 0)));
            all.add(new Refusal("addFeeder of kind " + w, ARGUMENT, () -> h.addFeeder(0, w, 0, 0, 0)));
            all.add(new Refusal("addFeeder with parts " + w, ARGUMENT, () -> h.addFeeder(0, 0, w, 0, 0)));
            all.add(new Refusal("addFeeder, miss " + w, ARGUMENT, () -> h.addFeeder(0, 0, 0, w, 0)));
            all.add(new Refusal("addFeeder, turn " + w, ARGUMENT, () -> h.addFeeder(0, 0, 0, 0, w)));
            all.add(new Refusal("addPlace at " + w, ARGUMENT, () -> h.addPlace(w, 0)));
            all.add(new Refusal("addPlace of kind " + w, ARGUMENT, () -> h.addPlace(0, w)));
            all.add(new Refusal("fit to " + w, ARGUMENT, () -> h.fit(0, w)));
            for (int setting = 0; setting < 5; setting++) {
                int s = setting;
                all.add(new Refusal("set " + s + " to " + w, ARGUMENT, () -> h.set(s, w)));
            }
            all.add(new Refusal("tour(" + w + ")", ARGUMENT, () -> h.tour(w)));
            all.add(new Refusal("append(" + w + ")", ARGUMENT, () -> h.append(w)));
            all.add(new Refusal("nozzle, what " + w, ARGUMENT, () -> h.nozzle(0, w)));
            all.add(new Refusal("count(" + w + ")", ARGUMENT, () -> h.count(w)));
            all.add(new Refusal("ifToured, times " + w, ARGUMENT, () -> h.ifToured(w, 0)));
            all.add(new Refusal("ifToured, what " + w, ARGUMENT, () -> h.ifToured(1, w)));
            all.add(new Refusal("choice, kind " + w, ARGUMENT, () -> h.choice(0, w)));
        }
        all.add(new Refusal("tour(0)", ARGUMENT, () -> h.tour(0)));
        all.add(new Refusal("tour(21)", ARGUMENT, () -> h.tour(21)));
        all.add(new Refusal("ifToured(0, 0)", ARGUMENT, () -> h.ifToured(0, 0)));
        all.add(new Refusal("ifToured(21, 0)", ARGUMENT, () -> h.ifToured(21, 0)));
        all.add(new Refusal("ifToured(1, 4)", ARGUMENT, () -> h.ifToured(1, 4)));
        all.add(new Refusal("count(14)", ARGUMENT, () -> h.count(14)));
        all.add(new Refusal("nozzle(0, 5)", ARGUMENT, () -> h.nozzle(0, 5)));
        all.add(new Refusal("choice(0, 6)", ARGUMENT, () -> h.choice(0, 6)));
        all.add(new Refusal("fit(0, 64)", ARGUMENT, () -> h.fit(0, 64)));
        all.add(new Refusal("append(32)", ARGUMENT, () -> h.append(32)));
        all.add(new Refusal("append(127)", ARGUMENT, () -> h.append(127)));
        return all;
    }

    private static List<Refusal> refusedIfFull(GossipHead h) {
        List<Refusal> all = new ArrayList<>();
        all.add(new Refusal("addFeeder, the ninth", STATE, () -> h.addFeeder(0, 0, 0, 0, 0)));
        all.add(new Refusal("addPlace, the 25th", STATE, () -> h.addPlace(0, 0)));
        all.add(new Refusal("append, the 61st", STATE, () -> h.append('p')));
        for (int feeder = 0; feeder < 8; feeder++) {
            int f = feeder;
            all.add(new Refusal("fill of full feeder " + f, STATE, () -> h.fill(f, 1)));
            all.add(new Refusal("fill of " + f + ", 0", ARGUMENT, () -> h.fill(f, 0)));
            all.add(new Refusal("fill of " + f + ", 501", ARGUMENT, () -> h.fill(f, 501)));
            all.add(new Refusal("fill of " + f + ", most", ARGUMENT, () -> h.fill(f, MOST)));
            all.add(new Refusal("repair of " + f + ", miss", ARGUMENT, () -> h.repair(f, 101, 0)));
            all.add(new Refusal("repair of " + f + ", turn", ARGUMENT, () -> h.repair(f, 0, -1)));
            all.add(new Refusal("feeder(" + f + ", 9)", ARGUMENT, () -> h.feeder(f, 9)));
            all.add(new Refusal("feeder(" + f + ", -1)", ARGUMENT, () -> h.feeder(f, -1)));
        }
        all.add(new Refusal("place(23, 5)", ARGUMENT, () -> h.place(23, 5)));
        all.add(new Refusal("place(23, -1)", ARGUMENT, () -> h.place(23, -1)));
        return all;
    }

    private static void refuse(GossipHead head, List<Refusal> refusals) {
        for (Refusal one : refusals) {
            Check.refused(head, one.name, one.due, one.call);
        }
    }

    private static void refusedByNewHead() {
        Check.sentence("A call that throws an exception changes nothing (a new head)");
        GossipHead head = new GossipHead();
        refuse(head, refusedByAll(head));
        refuse(head, refusedArguments(head));
        Check.badState(head, "undo()", () -> head.undo());
        Check.outOfRange(head, "read()", () -> head.read());
        Check.noSuch(head, "fill(0, 1)", () -> head.fill(0, 1));
        Check.noSuch(head, "repair(0, 0, 0)", () -> head.repair(0, 0, 0));
        Check.noSuch(head, "feeder(0, 0)", () -> head.feeder(0, 0));
        Check.noSuch(head, "trust(0, 0)", () -> head.trust(0, 0));
        Check.noSuch(head, "place(0, 0)", () -> head.place(0, 0));
        Check.due("digest()", head.digest(), new GossipHead().digest());
    }

    private static void refusedByFullHead() {
        Check.sentence("A call that throws an exception changes nothing (a full head)");
        GossipHead full = Bench.full();
        Check.due("feeders", full.count(0), 8);
        Check.due("places", full.count(1), 24);
        Check.due("right", full.count(7), 12);
        Check.due("wrong", full.count(8), 12);
        Check.due("parts", full.count(12), 8 * 500);
        Check.due("saved states", full.count(13), 6);
        Check.due("firstError()", full.firstError(), 60);
        inParts(0);
        inParts(1);
        inParts(2);
    }

    /** A head takes 512 calls alone, and each refusal is looked at by two digests. */
    private static void inParts(int part) {
        GossipHead head = Bench.full();
        List<Refusal> all = part == 0 ? refusedByAll(head)
            : part == 1 ? refusedArguments(head) : refusedIfFull(head);
        refuse(head, all);
        Check.due("firstError()", head.firstError(), 60);
        Check.due("digest()", head.digest(), Bench.full().digest());
    }

    private static void refusedSaveNothing() {
        Check.sentence("does not throw an exception saves the state (a refused call saves none, and drops none)");
        for (int part = 0; part < 3; part++) {
            GossipHead head = Bench.full();
            GossipHead same = Bench.full();
            List<Refusal> all = part == 0 ? refusedByAll(head)
                : part == 1 ? refusedArguments(head) : refusedIfFull(head);
            for (Refusal one : all) {
                try {
                    one.call.run();
                } catch (RuntimeException refused) {
                    Check.due("count(13) behind " + one.name, head.count(13), 6);
                }
            }
            for (int left = 5; left >= 0; left--) {
                Check.due("undo()", head.undo(), left);
                same.undo();
                Check.due("digest() with " + left + " saved states", head.digest(), same.digest());
            }
        }
    }

    private static void firstNamed() {
        Check.sentence("If several exceptions apply, the one that is named first in the throws clause is thrown");
        GossipHead h = Bench.full();
        Check.refused(h, "addFeeder, the ninth, at 100", ARGUMENT, () -> h.addFeeder(100, 0, 0, 0, 0));
        Check.refused(h, "addFeeder, the ninth, of kind 6", ARGUMENT, () -> h.addFeeder(0, 6, 0, 0, 0));
        Check.refused(h, "addFeeder, the ninth, 501 parts", ARGUMENT, () -> h.addFeeder(0, 0, 501, 0, 0));
        Check.refused(h, "addFeeder, the ninth, miss 101", ARGUMENT, () -> h.addFeeder(0, 0, 0, 101, 0));
        Check.refused(h, "addFeeder, the ninth, turn 101", ARGUMENT, () -> h.addFeeder(0, 0, 0, 0, 101));
        Check.refused(h, "addPlace, the 25th, at 100", ARGUMENT, () -> h.addPlace(100, 0));
        Check.refused(h, "addPlace, the 25th, of kind 6", ARGUMENT, () -> h.addPlace(0, 6));
        Check.refused(h, "fill(8, 501)", INDEX, () -> h.fill(8, 501));
        Check.refused(h, "fill(-1, 0)", INDEX, () -> h.fill(-1, 0));
        Check.refused(h, "fill(8, 1)", INDEX, () -> h.fill(8, 1));
        Check.refused(h, "fill(7, 501) of 500", ARGUMENT, () -> h.fill(7, 501));
        Check.refused(h, "fill(7, 0) of 500", ARGUMENT, () -> h.fill(7, 0));
        Check.refused(h, "repair(8, 101, 0)", INDEX, () -> h.repair(8, 101, 0));
        Check.refused(h, "repair(-1, 0, -1)", INDEX, () -> h.repair(-1, 0, -1));
        Check.refused(h, "fit(4, 64)", INDEX, () -> h.fit(4, 64));
        Check.refused(h, "fit(-1, -1)", INDEX, () -> h.fit(-1, -1));
        Check.refused(h, "set(5, 101)", INDEX, () -> h.set(5, 101));
        Check.refused(h, "set(-1, -1)", INDEX, () -> h.set(-1, -1));
        Check.refused(h, "append(127), the 61st", ARGUMENT, () -> h.append(127));
        Check.refused(h, "append(32), the 61st", ARGUMENT, () -> h.append(32));
        Check.refused(h, "feeder(8, 9)", INDEX, () -> h.feeder(8, 9));
        Check.refused(h, "feeder(-1, -1)", INDEX, () -> h.feeder(-1, -1));
        Check.refused(h, "place(24, 5)", INDEX, () -> h.place(24, 5));
        Check.refused(h, "place(-1, -1)", INDEX, () -> h.place(-1, -1));
        Check.refused(h, "nozzle(4, 5)", INDEX, () -> h.nozzle(4, 5));
        Check.refused(h, "nozzle(-1, -1)", INDEX, () -> h.nozzle(-1, -1));
        Check.refused(h, "trust(4, 8)", INDEX, () -> h.trust(4, 8));
        Check.refused(h, "trust(-1, -1)", INDEX, () -> h.trust(-1, -1));
        Check.refused(h, "ifToured(0, 4)", ARGUMENT, () -> h.ifToured(0, 4));
        Check.refused(h, "choice(4, 6)", INDEX, () -> h.choice(4, 6));
        Check.refused(h, "choice(-1, -1)", INDEX, () -> h.choice(-1, -1));
    }
}
