import java.io.IOException;
import java.nio.file.Files;
import java.nio.file.Path;
import java.util.Set;
import java.util.TreeSet;
import java.util.regex.Matcher;
import java.util.regex.Pattern;

/**
 * The calls that README.md shows answer what README.md says they answer: each line of its Java is made as
 * it stands there, and what it answers is held against the first word behind "//".
 */
public final class ReadmeTest {
    private static final Path README = Path.of("README.md");
    private static final String NEW = "RowModels x = new RowModels();";
    private static final Pattern CALL =
        Pattern.compile("(?:int (\\w+) = )?x\\.(\\w+)\\((\\w*)\\);\\s*// (-?\\w+)(?::.*)?");
    private static final Set<String> CALLS = Set.of("name", "row", "choice", "often", "clear", "make", "size",
        "isDeterministic", "begin", "read", "isWhole", "can", "next", "back");

    private static final Set<String> shown = new TreeSet<>();
    private static RowModels x = null;
    private static int m = RowModels.NONE;
    private static int wrong = 0;
    private static int checks = 0;

    public static void main(String[] args) throws IOException {
        boolean inside = false;
        for (String line : Files.readAllLines(README)) {
            if (line.startsWith("```")) {
                inside = line.equals("```java");
            } else if (inside && !line.isBlank()) {
                oneLine(line.trim());
            }
        }
        due("the calls that README.md shows", shown, new TreeSet<>(CALLS));
        System.out.println(wrong == 0 ? "all " + checks + " answers are as due" : wrong + " answers are not as due");
        if (wrong != 0) {
            System.exit(1);
        }
    }

    private static void due(String what, Object got, Object want) {
        checks++;
        if (!got.equals(want)) {
            wrong++;
            System.out.println(what + ": answered " + got + ", due is " + want);
        }
    }

    private static void oneLine(String line) {
        if (line.equals(NEW)) {
            x = new RowModels();
            return;
        }
        Matcher call = CALL.matcher(line);
        if (x == null || !call.matches()) {
            due(line, "not understood", "a call with its answer");
            return;
        }
        String got = answer(call.group(2), number(call.group(3)));
        if (call.group(1) != null) {
            m = Integer.parseInt(got);
        }
        shown.add(call.group(2));
        due(line, got, call.group(4).equals("NONE") ? "-1" : call.group(4));
    }

    private static int number(String text) {
        return text.isEmpty() ? 0 : text.equals("m") ? m : Integer.parseInt(text);
    }

    private static String answer(String call, int a) {
        switch (call) {
            case "name": return String.valueOf(x.name(a));
            case "row": return String.valueOf(x.row());
            case "choice": return String.valueOf(x.choice());
            case "often": return String.valueOf(x.often(a));
            case "clear": return String.valueOf(x.clear());
            case "make": return String.valueOf(x.make());
            case "size": return String.valueOf(x.size(a));
            case "isDeterministic": return String.valueOf(x.isDeterministic(a));
            case "begin": return String.valueOf(x.begin(a));
            case "read": return String.valueOf(x.read(a));
            case "isWhole": return String.valueOf(x.isWhole());
            case "can": return String.valueOf(x.can(a));
            case "next": return String.valueOf(x.next(a));
            case "back": return String.valueOf(x.back());
            default: return "no such call";
        }
    }
}
