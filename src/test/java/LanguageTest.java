import java.io.IOException;
import java.nio.file.Files;
import java.nio.file.Path;
import java.util.List;
import java.util.Set;
import java.util.regex.Matcher;
import java.util.regex.Pattern;

/** What a program can see of LANGUAGE.md's rules in the text of the class; the rest is for the reader. */
public final class LanguageTest {
    private static final String SOURCE = "src/main/java/GossipHead.java";
    private static final int MOST_LINES = 60;
    private static final int MOST_PARAMETERS = 7;
    private static final int MOST_CLASSES = 12;
    private static final int MOST_FIELDS = 20;
    private static final Set<String> EXCEPTIONS = Set.of("IllegalStateException", "IllegalArgumentException",
        "IndexOutOfBoundsException", "ArithmeticException", "UnsupportedOperationException",
        "NoSuchElementException", "RuntimeException");
    private static final Set<String> LIBRARY = Set.of("Math.abs", "Math.min", "Math.max", "System.arraycopy");
    private static final Pattern CLASS = Pattern.compile(" *.*\\b(class|enum|record|interface) (\\w+).*\\{");
    private static final Pattern METHOD =
        Pattern.compile("( {4}| {8})(?! )(?:[\\w\\[\\]]+ )*([\\w]+)\\(([^()]*)\\)[^;=]*");
    private static final Pattern FIELD =
        Pattern.compile("( {4}| {8})(?! )((?:private |static |final )*)[\\w\\[\\]]+ \\w+( = .*)?;");

    private final List<String> lines;
    private String outer = "";
    private String method = "";
    private int methodStart;
    private int fields;
    private int classes;
    private int methods;

    private LanguageTest(List<String> lines) {
        this.lines = lines;
    }

    public static void main(String[] args) throws IOException {
        String text = Files.readString(Path.of(SOURCE));
        signs(text);
        String bare = withoutRemarksAndTexts(text);
        wordsOfTheRules(bare);
        libraryCalls(bare);
        new LanguageTest(List.of(bare.split("\n"))).membersAndNew();
        Check.finish();
    }

    private static void signs(String text) {
        int odd = 0;
        for (int i = 0; i < text.length(); i++) {
            odd += text.charAt(i) > 126 ? 1 : 0;
        }
        Check.sentence("Rule 3: signs are 1 to 127");
        Check.due("other signs", odd, 0);
    }

    private static String withoutRemarksAndTexts(String text) {
        return text.replaceAll("(?s)/\\*.*?\\*/", "").replaceAll("//[^\n]*", "")
            .replaceAll("\"[^\"\n]*\"", "\"\"").replaceAll("'[^'\n]+'", "0");
    }

    private static void wordsOfTheRules(String bare) {
        Check.sentence("Without a package line, and no library but what rule 4 lists");
        none(bare, "\\b(package|import)\\b");
        Check.sentence("Rule 2: no lambda, no method reference");
        none(bare, "->|::");
        Check.sentence("Rule 5: no other static state, no static initialiser block");
        none(bare, "\\bstatic \\{|\\bstatic (?!final |class )[\\w\\[\\]]+ \\w+( =|;)");
        Check.sentence("Rule 6: no finally, no synchronized, no assert; and no exception is caught here at all");
        none(bare, "\\b(try|catch|finally|synchronized|assert|instanceof|volatile|native)\\b");
        Check.sentence("Rule 10: joining texts by StringBuilder (not by +)");
        none(bare, "\"\" \\+|\\+ \"\"");
    }

    private static void none(String bare, String forbidden) {
        Matcher matcher = Pattern.compile(forbidden).matcher(bare);
        String first = matcher.find() ? matcher.group() : "";
        Check.due("what the rule forbids: " + first, first.isEmpty() ? 0 : 1, 0);
    }

    private static void libraryCalls(String bare) {
        Check.sentence("Rule 4: the library: only what stands here");
        Matcher call = Pattern.compile("\\b([A-Z][a-z]\\w*)\\.(\\w+)").matcher(bare);
        int calls = 0;
        while (call.find()) {
            calls++;
            Check.due(call.group(), LIBRARY.contains(call.group()) ? 1 : 0, 1);
        }
        Check.due("library calls were found", calls > 0 ? 1 : 0, 1);
        Check.sentence("Rule 6: throw new E(\"a written text\")");
        Matcher thrown = Pattern.compile("\\bthrow\\b *(.{0,40})").matcher(bare);
        while (thrown.find()) {
            Matcher made = Pattern.compile("new (\\w+)\\((\"\")?\\);.*").matcher(thrown.group(1));
            Check.due(thrown.group(), made.matches() && EXCEPTIONS.contains(made.group(1)) ? 1 : 0, 1);
        }
    }

    private void membersAndNew() {
        Check.sentence("Rules 11 and 12: short methods, few parameters, fields and classes, few objects");
        for (int i = 0; i < lines.size(); i++) {
            String line = lines.get(i);
            Matcher type = CLASS.matcher(line);
            if (type.matches()) {
                startClass(type.group(2));
            } else if (method.isEmpty()) {
                member(line, i);
            } else if (line.matches(" {4}( {4})?\\}") && closesMethod(line)) {
                Check.due("lines of " + outer + "." + method, i - methodStart >= MOST_LINES ? 1 : 0, 0);
                method = "";
            } else {
                made(line);
            }
        }
        endClass();
        Check.due("classes in the file", classes > MOST_CLASSES || classes < 2 ? 1 : 0, 0);
        Check.due("methods were found", methods > 60 ? 1 : 0, 1);
    }

    private boolean closesMethod(String line) {
        return line.indexOf('}') == (outer.equals("GossipHead") ? 4 : 8);
    }

    private void startClass(String name) {
        endClass();
        outer = name;
        fields = 0;
        classes++;
    }

    private void endClass() {
        Check.due("fields of " + outer, fields > MOST_FIELDS ? 1 : 0, 0);
    }

    private void member(String line, int index) {
        Matcher head = METHOD.matcher(line);
        Matcher field = FIELD.matcher(line);
        if (head.matches()) {
            method = head.group(2);
            methodStart = index;
            methods++;
            int parameters = head.group(3).isEmpty() ? 0 : head.group(3).split(",").length;
            Check.due("parameters of " + outer + "." + method, parameters > MOST_PARAMETERS ? 1 : 0, 0);
        } else if (field.matches() && !field.group(2).contains("static")) {
            fields++;
        }
    }

    /** A row is made with the object that holds it, or for a saved state; a call makes nothing for itself. */
    private void made(String line) {
        boolean throwsOne = line.contains("throw new ");
        boolean allowed = method.equals(outer) || outer.equals("History") && method.equals("save");
        Check.due("new in " + outer + "." + method, line.contains("new ") && !throwsOne && !allowed ? 1 : 0, 0);
        Check.due("throw in the constructor of " + outer, throwsOne && method.equals(outer) ? 1 : 0, 0);
    }
}
