/** The boundaries of input texts, and of promises 11 to 14: append, clearBuffer, firstError, read. */
public final class TextBoundsTest {
    private static final String LONGEST = "p10:1;p0:1;p0:1;p0:1;p0:1;p0:1;p0:1;p0:1;p0:1;p0:1;p0:1;p0:1";

    public static void main(String[] args) {
        codes();
        mostCharacters();
        bufferAtFirst();
        clearBuffer();
        firstErrorOfNone();
        firstErrorPlaces();
        parts();
        placeNumbers();
        feederNumbers();
        partCounts();
        leadingZeros();
        anyLength();
        notComplete();
        readFeeders();
        readAll();
        readUpToFullFeeders();
        readUpToFullPlaces();
        readNone();
        refusedRead();
        Check.finish();
    }

    private static GossipHead typed(String board) {
        GossipHead head = new GossipHead();
        Check.type(head, board);
        return head;
    }

    private static void codes() {
        Check.sentence("code: the character code, 33 to 126; IllegalArgumentException if code is not 33 to 126");
        GossipHead head = new GossipHead();
        int length = 0;
        for (int code = -1; code <= 256; code++) {
            int one = code;
            if (code < 33 || code > 126) {
                Check.outOfRange(head, "append(" + code + ")", () -> head.append(one));
                continue;
            }
            length++;
            Check.due("append(" + code + ")", head.append(code), length);
            if (length == 60) {
                Check.due("clearBuffer()", head.clearBuffer(), 60);
                length = 0;
            }
        }
        int[] wrapped = {Integer.MIN_VALUE, Integer.MAX_VALUE, 65536 + 'p', 256 + 'p', 'p' - 65536};
        for (int code : wrapped) {
            Check.outOfRange(head, "append(" + code + ")", () -> head.append(code));
        }
    }

    private static void mostCharacters() {
        Check.sentence("The buffer has at most 60 characters");
        GossipHead head = new GossipHead();
        for (int length = 1; length <= 60; length++) {
            Check.due("append", head.append(length % 2 == 0 ? 33 : 126), length);
        }
        Check.badState(head, "append, the 61st", () -> head.append('p'));
        Check.badState(head, "append, the 61st once more", () -> head.append('p'));
        Check.due("clearBuffer()", head.clearBuffer(), 60);
        Check.due("append behind it", head.append('p'), 1);
    }

    private static void bufferAtFirst() {
        Check.sentence("Creates a head without feeders and places, and with an empty buffer");
        GossipHead head = new GossipHead();
        Check.due("firstError()", head.firstError(), 0);
        Check.outOfRange(head, "read()", () -> head.read());
        Check.due("append('p')", head.append('p'), 1);
    }

    private static void clearBuffer() {
        Check.sentence("Clears the buffer; returns the length that it had");
        for (int length = 0; length <= 60; length++) {
            GossipHead head = typed(LONGEST.substring(0, length));
            Check.due("clearBuffer()", head.clearBuffer(), length);
            Check.due("clearBuffer() again", head.clearBuffer(), 0);
            Check.due("firstError() then", head.firstError(), 0);
            Check.due("saved states", head.count(13), 0);
        }
        // What stood in the buffer ahead of it must not come back behind fewer characters.
        GossipHead head = typed(LONGEST);
        head.clearBuffer();
        head.append('p');
        Check.due("firstError() of one character", head.firstError(), 1);
        Check.outOfRange(head, "read() of one character", () -> head.read());
    }

    private static void firstErrorOfNone() {
        Check.sentence("the length of the buffer if there is none");
        for (int length = 0; length <= 60; length++) {
            GossipHead head = typed(LONGEST.substring(0, length));
            Check.due("firstError() of " + length + " characters", head.firstError(), length);
        }
    }

    private static void firstErrorPlaces() {
        Check.sentence("Returns the index of the first character that is a syntax error");
        for (int index = 0; index < 60; index++) {
            String board = LONGEST.substring(0, index) + "x" + LONGEST.substring(index + 1);
            Check.due("firstError() of " + board, typed(board).firstError(), index);
            String twice = LONGEST.substring(0, index) + "xx";
            if (index < 59) {
                Check.due("firstError() of " + twice, typed(twice).firstError(), index);
            }
        }
    }

    private static void parts() {
        Check.sentence("A board as a text consists of one or more parts separated by \";\"");
        board("p0:0", 1);
        board("f0:0*0", 1);
        board("p0:0;p0:0", 2);
        board("p0:0;f0:0*0", 2);
        board("f0:0*0;p0:0", 2);
        board("f0:0*0;f0:0*0", 2);
        board("p0:0;p0:0;p0:0;p0:0;p0:0;p0:0;p0:0;p0:0;p0:0;p0:0;p0:0;p0:0", 12);
        board(LONGEST, 12);
        noBoard("", 0);
        noBoard(";", 0);
        noBoard(";p0:0", 0);
        noBoard("p0:0;", 5);
        noBoard("p0:0;;p0:0", 5);
        noBoard("f0:0*0;", 7);
        noBoard("p0:0p0:0", 4);
        noBoard("f0:0*0f0:0*0", 6);
        noBoard("p0:0,p0:0", 4);
    }

    private static void board(String text, int added) {
        GossipHead head = typed(text);
        Check.due("firstError() of " + text, head.firstError(), text.length());
        Check.due("read() of " + text, head.read(), added);
        Check.due("buffer behind read()", head.clearBuffer(), 0);
    }

    private static void noBoard(String text, int error) {
        GossipHead head = typed(text);
        Check.due("firstError() of " + text, head.firstError(), error);
        Check.outOfRange(head, "read() of " + text, () -> head.read());
        Check.due("buffer behind it", head.clearBuffer(), text.length());
    }

    private static void placeNumbers() {
        Check.sentence("a place \"p\", its distance, 0 to 99, \":\", and its kind, 0 to 5");
        for (int x = 0; x <= 99; x++) {
            for (int kind = 0; kind <= 5; kind += 5) {
                GossipHead head = typed("p" + x + ":" + kind);
                Check.due("read()", head.read(), 1);
                Check.due("place(0, 0)", head.place(0, 0), x);
                Check.due("place(0, 1)", head.place(0, 1), kind);
                Check.due("feeders", head.count(0), 0);
            }
        }
        noBoard("p100:0", 3);
        noBoard("p990:0", 3);
        noBoard("p-1:0", 1);
        noBoard("p:0", 1);
        noBoard("p99:6", 4);
        noBoard("p99:9", 4);
        noBoard("p99:10", 5);
        noBoard("p99:55", 5);
        noBoard("p99:", 4);
        noBoard("p99", 3);
        noBoard("p", 1);
        noBoard("p99:5*5", 5);
        noBoard("P99:5", 0);
    }

    private static void feederNumbers() {
        Check.sentence("or a feeder \"f\", its distance, 0 to 99, \":\", its kind, 0 to 5, \"*\", and its parts, 0 to 500");
        for (int x = 0; x <= 99; x++) {
            for (int kind = 0; kind <= 5; kind += 5) {
                GossipHead head = typed("f" + x + ":" + kind + "*" + (500 - x));
                Check.due("read()", head.read(), 1);
                Check.due("feeder(0, 0)", head.feeder(0, 0), x);
                Check.due("feeder(0, 1)", head.feeder(0, 1), kind);
                Check.due("feeder(0, 2)", head.feeder(0, 2), 500 - x);
                Check.due("places", head.count(1), 0);
            }
        }
        noBoard("f100:0*0", 3);
        noBoard("f-1:0*0", 1);
        noBoard("f:0*0", 1);
        noBoard("f99:6*0", 4);
        noBoard("f99:10*0", 5);
        noBoard("f99:5*", 6);
        noBoard("f99:5", 5);
        noBoard("f99:", 4);
        noBoard("f99", 3);
        noBoard("f", 1);
        noBoard("f99:5;", 5);
        noBoard("f99*5:5", 3);
        noBoard("F99:5*5", 0);
    }

    private static void partCounts() {
        Check.sentence("and its parts, 0 to 500");
        for (int parts = 0; parts <= 500; parts++) {
            GossipHead head = typed("f0:0*" + parts);
            Check.due("read()", head.read(), 1);
            Check.due("feeder(0, 2)", head.feeder(0, 2), parts);
        }
        for (int parts = 501; parts <= 999; parts++) {
            noBoard("f0:0*" + parts, 7);
        }
        noBoard("f0:0*1000", 8);
        noBoard("f0:0*5000", 8);
        noBoard("f0:0*-1", 5);
    }

    private static void leadingZeros() {
        Check.sentence("Numbers are without leading zeros");
        board("p0:0", 1);
        board("p10:0", 1);
        board("f0:0*0", 1);
        board("f20:0*10", 1);
        board("f20:0*100", 1);
        for (int digit = 0; digit <= 9; digit++) {
            noBoard("p0" + digit + ":0", 2);
            noBoard("f0" + digit + ":0*0", 2);
            noBoard("p1:0" + digit, 4);
            noBoard("f1:0" + digit + "*0", 4);
            noBoard("f1:0*0" + digit, 6);
        }
        noBoard("f1:0*000", 6);
    }

    private static void anyLength() {
        Check.sentence("a character is a syntax error if no board, of any length, begins with the characters before it"
            + " and this character");
        fullBuffer(";p0:5", true);
        fullBuffer(";f0:5", false);
        fullBuffer(";p12:", false);
        fullBuffer(";f12:", false);
        fullBuffer(";p1:3;p1:3", true);
        fullBuffer(";f12:3*499", true);
        fullBuffer(";f12:3*49;", false);
        fullBuffer(";p1:33;f12", 55);
        fullBuffer(";p12:3;f12", false);
        fullBuffer(";p1:3;p12:", false);
        fullBuffer(";p12:3;p1x", 59);
        fullBuffer(";f12:3*501", 59);
    }

    /** The last part of a full buffer may go on, where it is none yet. */
    private static void fullBuffer(String ending, boolean complete) {
        fullBuffer(ending, 60);
        GossipHead head = typed(LONGEST.substring(0, 60 - ending.length()) + ending);
        if (complete) {
            Check.due("read() up to " + ending, head.read() > 0 ? 1 : 0, 1);
        } else {
            Check.outOfRange(head, "read() up to " + ending, () -> head.read());
        }
    }

    private static void fullBuffer(String ending, int error) {
        GossipHead head = typed(LONGEST.substring(0, 60 - ending.length()) + ending);
        Check.badState(head, "append behind " + ending, () -> head.append(';'));
        Check.due("firstError() up to " + ending, head.firstError(), error);
    }

    private static void notComplete() {
        Check.sentence("IllegalArgumentException if the buffer is not a complete board");
        String board = "f99:5*500;p99:5;f0:0*0;p0:0";
        for (int length = 0; length <= board.length(); length++) {
            String text = board.substring(0, length);
            if (text.matches(".*(\\*[0-9]+|p[0-9]+:[0-5])")) {
                board(text, text.split(";").length);
            } else {
                noBoard(text, length);
            }
            noBoard(text + "x", length);
        }
    }

    private static void readFeeders() {
        Check.sentence("(it neither misses nor turns over)");
        GossipHead used = new GossipHead();
        used.addFeeder(0, 0, 9, 100, 100);
        used.undo();
        Check.type(used, "f7:3*9");
        used.read();
        int[] due = {7, 3, 9, 0, 0, 0, 0, 0, 200};
        for (int what = 0; what <= 8; what++) {
            Check.due("feeder(0, " + what + ")", used.feeder(0, what), due[what]);
        }
        Check.due("trust(3, 0)", used.trust(3, 0), 50);
    }

    private static void readAll() {
        Check.sentence("Adds the places and feeders of the board in the buffer, one after the other");
        GossipHead head = typed("f1:0*1;f2:1*2;f3:2*3;f4:3*4;f5:4*5;f6:5*6;f7:0*7;f8:1*8");
        Check.due("read() of eight feeders", head.read(), 8);
        for (int feeder = 0; feeder < 8; feeder++) {
            Check.due("x of feeder " + feeder, head.feeder(feeder, 0), feeder + 1);
            Check.due("kind of feeder " + feeder, head.feeder(feeder, 1), feeder % 6);
            Check.due("parts of feeder " + feeder, head.feeder(feeder, 2), feeder + 1);
        }
        for (int round = 0; round < 2; round++) {
            Check.type(head, LONGEST);
            Check.due("read() of twelve places", head.read(), 12);
        }
        Check.due("places", head.count(1), 24);
        Check.due("x of place 12", head.place(12, 0), 10);
        Check.due("nozzle of place 23", head.place(23, 3), -1);
        Check.due("feeder of place 23", head.place(23, 4), -1);
        Check.due("saved states", head.count(13), 3);
    }

    private static void readUpToFullFeeders() {
        Check.sentence("up to the first one whose method would throw an exception (the ninth feeder)");
        for (int feeders = 5; feeders <= 8; feeders++) {
            GossipHead head = new GossipHead();
            for (int feeder = 0; feeder < feeders; feeder++) {
                head.addFeeder(0, 0, 0, 0, 0);
            }
            Check.type(head, "p1:1;f1:1*1;p2:2;f2:2*2;p3:3;f3:3*3;p4:4");
            int[] due = {7, 5, 3, 1};
            int[] placesDue = {4, 3, 2, 1};
            Check.due("read() behind " + feeders + " feeders", head.read(), due[feeders - 5]);
            Check.due("feeders", head.count(0), 8);
            Check.due("places", head.count(1), placesDue[feeders - 5]);
            if (feeders == 6) {
                Check.due("feeders behind 6", head.feeder(7, 0), 2);
            }
            Check.due("buffer", head.clearBuffer(), 0);
        }
    }

    private static void readUpToFullPlaces() {
        Check.sentence("up to the first one whose method would throw an exception (the 25th place)");
        for (int places = 21; places <= 24; places++) {
            GossipHead head = new GossipHead();
            Bench.addPlaces(head, places);
            Check.type(head, "f1:1*1;p1:1;f2:2*2;p2:2;f3:3*3;p3:3;f4:4*4");
            int[] due = {7, 5, 3, 1};
            int[] feedersDue = {4, 3, 2, 1};
            Check.due("read() behind " + places + " places", head.read(), due[places - 21]);
            Check.due("places", head.count(1), 24);
            Check.due("feeders", head.count(0), feedersDue[places - 21]);
            Check.due("buffer", head.clearBuffer(), 0);
        }
    }

    private static void readNone() {
        Check.sentence("Undoable, as one call, also if none is added");
        GossipHead head = Bench.full();
        head.undo();
        long before = head.digest();
        Check.due("read() of places on a full board", head.read(), 0);
        Check.due("saved states", head.count(13), 6);
        Check.due("buffer", head.clearBuffer(), 0);
        Check.due("undo()", head.undo(), 5);
        Check.type(head, LONGEST);
        Check.due("digest() behind undo()", head.digest(), before);
        GossipHead some = new GossipHead();
        some.addPlace(1, 1);
        Check.type(some, "p2:2;f3:3*3;p4:4");
        Check.due("read()", some.read(), 3);
        Check.due("saved states", some.count(13), 2);
        Check.due("undo() of all three", some.undo(), 1);
        Check.due("places", some.count(1), 1);
        Check.due("feeders", some.count(0), 0);
        Check.due("buffer stays cleared", some.clearBuffer(), 0);
    }

    private static void refusedRead() {
        Check.sentence("A call that throws an exception changes nothing (read)");
        GossipHead head = Bench.full();
        head.clearBuffer();
        Check.type(head, "p1:1;p2:2;");
        Check.outOfRange(head, "read() on a full board", () -> head.read());
        GossipHead other = typed("p1:1;f2:2*2;p3:");
        Check.outOfRange(other, "read()", () -> other.read());
        Check.due("places", other.count(1), 0);
        Check.due("feeders", other.count(0), 0);
        Check.due("saved states", other.count(13), 0);
        Check.due("append behind it", other.append('3'), 16);
        Check.due("read() of the whole", other.read(), 3);
    }
}
