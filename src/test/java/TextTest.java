/** Promises 11 to 15: append, clearBuffer, firstError, read, undo. */
public final class TextTest {
    public static void main(String[] args) {
        append();
        clearBuffer();
        firstErrors();
        everySign();
        longBoard();
        readRefuses();
        readAdds();
        readStops();
        readIsUndone();
        undo();
        undoDropsTheOldest();
        undoBringsAllBack();
        Check.finish();
    }

    private static void append() {
        GossipHead head = new GossipHead();
        Check.outOfRange(head, "append(32)", () -> head.append(32));
        Check.outOfRange(head, "append(127)", () -> head.append(127));
        Check.outOfRange(head, "append(-1)", () -> head.append(-1));
        Check.outOfRange(head, "append(65536 + 'p')", () -> head.append(65536 + 'p'));
        for (int length = 1; length <= 60; length++) {
            Check.due("append, length", head.append(length == 1 ? 33 : 126), length);
        }
        Check.badState(head, "append, the 61st", () -> head.append(33));
        Check.outOfRange(head, "append(127), the 61st", () -> head.append(127));
        Check.due("append saves nothing", head.count(13), 0);
        Check.due("length", head.clearBuffer(), 60);
    }

    private static void clearBuffer() {
        GossipHead head = new GossipHead();
        Check.due("clearBuffer() of nothing", head.clearBuffer(), 0);
        long before = head.digest();
        Check.type(head, "p1:2;f");
        Check.due("clearBuffer()", head.clearBuffer(), 6);
        Check.due("digest() behind clearBuffer()", head.digest(), before);
        Check.due("clearBuffer() again", head.clearBuffer(), 0);
        Check.due("saved states", head.count(13), 0);
    }

    private static void firstErrors() {
        error("", 0);
        error("p", 1);
        error("q", 0);
        error("P1:1", 0);
        error(";", 0);
        error("1", 0);
        error("p:1", 1);
        error("p0:0", 4);
        error("p99:5", 5);
        error("p100:0", 3);
        error("p05:0", 2);
        error("p00:0", 2);
        error("p5;0", 2);
        error("p5*0", 2);
        error("p5::", 3);
        error("p5:;", 3);
        error("p5:6", 3);
        error("p5:05", 4);
        error("p5:55", 4);
        error("p5:5*", 4);
        error("p5:5:", 4);
        error("p5:5p", 4);
        error("p5:5;", 5);
        error("p5:5;;", 5);
        error("p5:5;f", 6);
        error("p5:5;x", 5);
        error("f5:5", 4);
        error("f5:5;", 4);
        error("f5:5:", 4);
        error("f5:5*", 5);
        error("f5:5*;", 5);
        error("f5:5*0", 6);
        error("f5:5*00", 6);
        error("f5:5*05", 6);
        error("f5:5*500", 8);
        error("f5:5*501", 7);
        error("f5:5*510", 7);
        error("f5:5*499", 8);
        error("f5:5*600", 7);
        error("f5:5*99", 7);
        error("f5:5*100", 8);
        error("f5:5*1000", 8);
        error("f5:5*5000", 8);
        error("f5:5*5:", 6);
        error("f5:5*5*", 6);
        error("f5:5*5p", 6);
        error("f99:0*77;p10:3;f0:5*0", 21);
        error("f99:0*77;p10:3;f0:5*0p", 21);
        error("-1", 0);
        error("p-1", 1);
        error("!~", 0);
    }

    private static void error(String board, int due) {
        GossipHead head = new GossipHead();
        Check.type(head, board);
        Check.due("firstError() of " + board, head.firstError(), due);
        Check.due("firstError() of " + board + " again", head.firstError(), due);
        Check.due("length of " + board, head.clearBuffer(), board.length());
    }

    /** Behind each beginning just these signs may stand. */
    private static void everySign() {
        follow("", "pf");
        follow("p", "0123456789");
        follow("p0", ":");
        follow("p1", "0123456789:");
        follow("p12", ":");
        follow("p1:", "012345");
        follow("f1:", "012345");
        follow("p1:0", ";");
        follow("p1:3", ";");
        follow("f1:0", "*");
        follow("f1:3", "*");
        follow("f1:3*", "0123456789");
        follow("f1:3*0", ";");
        follow("f1:3*4", "0123456789;");
        follow("f1:3*9", "0123456789;");
        follow("f1:3*49", "0123456789;");
        follow("f1:3*50", "0;");
        follow("f1:3*51", ";");
        follow("f1:3*500", ";");
        follow("p1:0;", "pf");
        follow("f1:3*0;", "pf");
    }

    private static void follow(String beginning, String signs) {
        GossipHead head = new GossipHead();
        int at = beginning.length();
        for (int code = 33; code <= 126; code++) {
            Check.type(head, beginning);
            head.append(code);
            int due = signs.indexOf(code) >= 0 ? at + 1 : at;
            Check.due("firstError() of " + beginning + (char) code, head.firstError(), due);
            head.clearBuffer();
        }
    }

    private static void longBoard() {
        GossipHead head = new GossipHead();
        for (int i = 0; i < 12; i++) {
            Check.type(head, "p0:1;");
        }
        Check.due("firstError() of a full buffer", head.firstError(), 60);
        Check.outOfRange(head, "read() of a full buffer", () -> head.read());
        head.clearBuffer();
        Check.type(head, "p10:1");
        for (int i = 0; i < 11; i++) {
            Check.type(head, ";p0:1");
        }
        Check.due("length", head.firstError(), 60);
        Check.due("read() of 12 places", head.read(), 12);
        Check.due("places", head.count(1), 12);
    }

    private static void readRefuses() {
        String[] boards = {"", "p", "p1", "p1:", "p1:1;", "f1", "f1:", "f1:1", "f1:1*", "f1:1*1;",
            "p1:1;p", "p1:1;f2:2", "p1:1;q", "x", "p1:1x", "p1:16", "f1:1*501", "p01:1"};
        for (String board : boards) {
            GossipHead head = new GossipHead();
            Check.type(head, board);
            Check.outOfRange(head, "read() of " + board, () -> head.read());
            Check.due("length of " + board, head.clearBuffer(), board.length());
        }
    }

    private static void readAdds() {
        GossipHead head = new GossipHead();
        Check.type(head, "f99:5*500;p7:3;p10:0;f0:0*0;f12:1*34");
        Check.due("read()", head.read(), 5);
        int[][] feeders = {{99, 5, 500}, {0, 0, 0}, {12, 1, 34}};
        Check.due("feeders", head.count(0), 3);
        for (int feeder = 0; feeder < 3; feeder++) {
            for (int what = 0; what <= 8; what++) {
                int due = what < 3 ? feeders[feeder][what] : what == 8 ? 200 : 0;
                Check.due("feeder(" + feeder + ", " + what + ")", head.feeder(feeder, what), due);
            }
        }
        Check.due("places", head.count(1), 2);
        Check.due("place(0, 0)", head.place(0, 0), 7);
        Check.due("place(0, 1)", head.place(0, 1), 3);
        Check.due("place(1, 0)", head.place(1, 0), 10);
        Check.due("place(1, 1)", head.place(1, 1), 0);
        Check.due("place(1, 3)", head.place(1, 3), -1);
        Check.due("place(1, 4)", head.place(1, 4), -1);
        Check.due("buffer", head.clearBuffer(), 0);
        Check.due("saved states", head.count(13), 1);
    }

    private static void readStops() {
        GossipHead head = new GossipHead();
        for (int i = 0; i < 7; i++) {
            head.addFeeder(0, 0, 0, 0, 0);
        }
        Check.type(head, "f1:1*1;p1:1;f2:2*2;p2:2");
        Check.due("read() up to the ninth feeder", head.read(), 2);
        Check.due("feeders", head.count(0), 8);
        Check.due("places", head.count(1), 1);
        Check.due("buffer", head.clearBuffer(), 0);
        Check.type(head, "f1:1*1");
        int saved = head.count(13);
        Check.leaveRoom(head);
        Check.due("saved states were six", saved, 6);
        Check.due("read() of none", head.read(), 0);
        Check.due("saved also then", head.count(13), 6);
        Check.due("buffer", head.clearBuffer(), 0);
        for (int i = 0; i < 22; i++) {
            head.addPlace(0, 0);
        }
        Check.type(head, "p9:1;p8:2;p7:3");
        Check.due("read() up to the 25th place", head.read(), 1);
        Check.due("place(23, 0)", head.place(23, 0), 9);
        GossipHead full = new GossipHead();
        for (int i = 0; i < 24; i++) {
            full.addPlace(0, 0);
        }
        Check.type(full, "f1:1*1;p1:1;f2:2*2");
        Check.due("read() stops at a place", full.read(), 1);
        Check.due("feeders", full.count(0), 1);
    }

    private static void readIsUndone() {
        GossipHead head = new GossipHead();
        head.addPlace(3, 3);
        long before = head.digest();
        Check.type(head, "p1:1;f2:2*2;p3:3");
        Check.due("read()", head.read(), 3);
        Check.undone(head, "read", before, 1);
        Check.due("buffer", head.clearBuffer(), 0);
        Check.due("places", head.count(1), 1);
        Check.due("feeders", head.count(0), 0);
    }

    private static void undo() {
        GossipHead head = new GossipHead();
        Check.badState(head, "undo() of nothing", () -> head.undo());
        head.set(0, 5);
        Check.type(head, "p1");
        Check.due("undo()", head.undo(), 0);
        Check.due("setting(0)", head.setting(0), 2);
        Check.due("buffer stays", head.clearBuffer(), 2);
        Check.badState(head, "undo() again", () -> head.undo());
    }

    private static void undoDropsTheOldest() {
        GossipHead head = new GossipHead();
        for (int i = 1; i <= 9; i++) {
            head.set(1, i);
            Check.due("saved states", head.count(13), Math.min(i, 6));
        }
        for (int left = 5; left >= 0; left--) {
            Check.due("undo()", head.undo(), left);
            Check.due("setting(1)", head.setting(1), 3 + left);
        }
        Check.badState(head, "undo() of the seventh", () -> head.undo());
        head.set(1, 40);
        head.set(1, 41);
        Check.due("undo()", head.undo(), 1);
        Check.due("setting(1)", head.setting(1), 40);
        head.set(1, 42);
        head.undo();
        head.undo();
        Check.due("setting(1)", head.setting(1), 3);
    }

    private static void undoBringsAllBack() {
        GossipHead head = new GossipHead();
        Check.type(head, "p4:4");
        long[] digests = new long[7];
        head.addFeeder(10, 0, 90, 40, 40);
        Check.type(head, ";p");
        for (int i = 0; i < 4; i++) {
            head.addPlace(20 + i, 0);
        }
        digests[5] = head.digest();
        head.tour(2);
        Check.due("undo()", head.undo(), 5);
        Check.due("digest()", head.digest(), digests[5]);
        for (int i = 4; i >= 1; i--) {
            head.undo();
            Check.due("places", head.count(1), i - 1);
        }
        digests[1] = head.digest();
        head.fill(0, 3);
        head.repair(0, 1, 1);
        head.fit(2, 2);
        head.set(4, 4);
        head.inspect();
        for (int i = 5; i >= 1; i--) {
            head.undo();
        }
        Check.due("digest()", head.digest(), digests[1]);
        Check.due("buffer", head.clearBuffer(), 6);
    }
}
