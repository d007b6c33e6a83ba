import java.io.IOException;
import java.nio.file.Files;
import java.nio.file.Path;
import java.util.ArrayList;
import java.util.List;

/** README.md's example stands here line by line, and its answers are the ones that the remarks tell. */
public final class ReadmeTest {
    private static final String OWN_SOURCE = "src/test/java/ReadmeTest.java";

    public static void main(String[] args) throws IOException {
        example();
        List<String> shown = linesBetween("README.md", "```java", "```");
        List<String> run = linesBetween(OWN_SOURCE, "// README begins", "// README ends");
        Check.due("README.md's example has lines", shown.isEmpty() ? 0 : 1, 1);
        Check.due("lines of README.md's example", shown.size(), run.size());
        for (int i = 0; i < Math.min(shown.size(), run.size()); i++) {
            boolean same = shown.get(i).equals(run.get(i));
            Check.due("line " + (i + 1) + " of README.md's example is run: " + shown.get(i), same ? 1 : 0, 1);
        }
        namesEachCall();
        namesEachTest();
        Check.finish();
    }

    private static void example() {
        // README begins
        GossipHead head = new GossipHead();
        int missing = head.addFeeder(10, 0, 20, 60, 0); // at 10, kind 0, 20 parts, misses 60 %, turns over none
        int turning = head.addFeeder(40, 0, 20, 0, 30); // at 40, kind 0, 20 parts, misses none, turns over 30 %
        int place = head.addPlace(30, 0);               // at 30, needs kind 0
        String board = "p50:0;p70:1;f90:1*25";          // two more places, and a feeder of kind 1 with 25 parts
        for (int i = 0; i < board.length(); i++) {
            head.append(board.charAt(i));
        }
        int error = head.firstError();                  // 20, the length: no character is a syntax error
        int added = head.read();                        // 3, and the buffer is empty
        int right = head.ifToured(1, 3);                // 2 places would be right behind a tour
        int placed = head.tour(1);                      // 2 parts are placed
        int state = head.place(place, 2);               // 0 empty (1 right, 2 wrong): its part was thrown away
        int less = head.trust(0, missing);              // 35 now, 50 at first: it missed, and the neighbors agree
        int wrong = head.inspect();                     // 0 places were wrong; takes 10
        double share = head.missShare();                // 0.25: one of four tries
        int saved = head.undo();                        // 5 saved states are left; the inspection is taken back
        int tours = head.needed();                      // 1 tour more makes all places right
        // README ends
        Check.due("turning", turning, 1);
        Check.due("error", error, 20);
        Check.due("added", added, 3);
        Check.due("right", right, 2);
        Check.due("placed", placed, 2);
        Check.due("state", state, 0);
        Check.due("parts that were thrown away", head.count(10), 1);
        Check.due("less", less, 35);
        Check.due("wrong", wrong, 0);
        Check.dueDouble("share", share, 0.25);
        Check.due("saved", saved, 5);
        Check.due("tours", tours, 1);
    }

    private static List<String> linesBetween(String file, String begin, String end) throws IOException {
        List<String> found = new ArrayList<>();
        boolean inside = false;
        for (String line : Files.readAllLines(Path.of(file))) {
            if (inside && line.trim().equals(end)) {
                return found;
            }
            if (inside) {
                found.add(line.strip());
            }
            inside = inside || line.trim().equals(begin);
        }
        return found;
    }

    private static void namesEachCall() throws IOException {
        String text = Files.readString(Path.of("README.md"));
        for (java.lang.reflect.Method method : GossipHead.class.getMethods()) {
            boolean own = method.getDeclaringClass() == GossipHead.class;
            boolean named = text.contains("`" + method.getName() + "(");
            Check.due("README.md names " + method.getName(), !own || named ? 1 : 0, 1);
        }
    }

    private static void namesEachTest() throws IOException {
        String text = Files.readString(Path.of("README.md"));
        for (String name : Path.of(OWN_SOURCE).getParent().toFile().list()) {
            boolean test = name.endsWith("Test.java");
            boolean named = text.contains("| " + name.replace(".java", "") + " |");
            Check.due("README.md names " + name, !test || named ? 1 : 0, 1);
        }
    }
}
