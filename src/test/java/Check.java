/** Counts the answers of a test that are not the ones that are due. */
final class Check {
    interface Call {
        void run();
    }

    private static int wrong = 0;
    private static int checks = 0;
    private static String sentence = "";

    private Check() {
    }

    /** The sentence of the document that the next checks are about; a sentence without one is a fault. */
    static void sentence(String words) {
        endSentence();
        sentence = words;
        checks = 0;
    }

    private static void endSentence() {
        if (!sentence.isEmpty() && checks == 0) {
            fault("nothing was checked");
        }
    }

    private static void fault(String words) {
        wrong++;
        System.out.println((sentence.isEmpty() ? "" : "[" + sentence + "] ") + words);
    }

    static void due(String call, long got, long want) {
        checks++;
        if (got != want) {
            fault(call + " answered " + got + ", due is " + want);
        }
    }

    static void dueDouble(String call, double got, double want) {
        due(call + " (as bits)", Double.doubleToLongBits(got), Double.doubleToLongBits(want));
    }

    /** The call throws exactly this exception and changes nothing that the head tells. */
    static void refused(GossipHead head, String call, Class<?> want, Call body) {
        long before = head.digest();
        Class<?> got = null;
        try {
            body.run();
        } catch (RuntimeException thrown) {
            got = thrown.getClass();
        }
        checks++;
        if (got != want) {
            fault(call + " threw " + got + ", due is " + want);
        }
        due("digest() behind the refused " + call, head.digest(), before);
    }

    static void outOfRange(GossipHead head, String call, Call body) {
        refused(head, call, IllegalArgumentException.class, body);
    }

    static void noSuch(GossipHead head, String call, Call body) {
        refused(head, call, IndexOutOfBoundsException.class, body);
    }

    static void badState(GossipHead head, String call, Call body) {
        refused(head, call, IllegalStateException.class, body);
    }

    /** Takes the latest call back, which is due to leave the head as it was. */
    static void undone(GossipHead head, String call, long digestBefore, int savedBefore) {
        due("saved states behind " + call, head.count(13), savedBefore + 1);
        due("undo() of " + call, head.undo(), savedBefore);
        due("digest() behind undo() of " + call, head.digest(), digestBefore);
    }

    /** Makes the saved states five where they were six, so that none is dropped by the next call. */
    static void leaveRoom(GossipHead head) {
        head.set(0, head.setting(0));
        head.undo();
    }

    static void type(GossipHead head, String board) {
        for (int i = 0; i < board.length(); i++) {
            head.append(board.charAt(i));
        }
    }

    static void finish() {
        endSentence();
        System.out.println(wrong == 0 ? "all answers are as due" : wrong + " answers are not as due");
        if (wrong != 0) {
            System.exit(1);
        }
    }
}
