import java.io.IOException;
import java.nio.file.Files;
import java.nio.file.Path;
import java.util.ArrayList;
import java.util.List;

/** The example of README.md: its calls are made here, and each answer is the one that stands behind the call there. */
public final class ReadmeTest extends Desks {
    private static final List<String> example = new ArrayList<>();
    private static int line = 0;

    public static void main(String[] args) throws IOException {
        readExample();
        next("DeltaDesk desk = new DeltaDesk();");
        DeltaDesk desk = new DeltaDesk();
        next("desk.size(0, 8);");
        desk.size(0, 8);
        next("desk.put(0, 0, 0x0102030405060708L);");
        desk.put(0, 0, 0x0102030405060708L);
        next("desk.size(1, 9);");
        desk.size(1, 9);
        next("desk.move(0, 0, 1, 1, 8);");
        desk.move(0, 0, 1, 1, 8);
        answers("desk.find(4, 64, 1, 0);", desk.find(4, 64, 1, 0));
        answers("desk.delta(4, 64);", desk.delta(4, 64));
        answers("desk.token(0, 0);", desk.token(0, 0));
        answers("desk.token(0, 1);", desk.token(0, 1));
        answers("desk.token(0, 2);", desk.token(0, 2));
        answers("desk.token(1, 0);", desk.token(1, 0));
        answers("desk.token(1, 1);", desk.token(1, 1));
        answers("desk.token(1, 2);", desk.token(1, 2));
        answers("desk.sent();", desk.sent());
        answers("desk.same();", desk.same());
        answers("desk.patch();", desk.patch());
        answers("desk.same();", desk.same());
        checks.due("lines of the example", example.size(), line);
        checks.end();
    }

    private static void readExample() throws IOException {
        boolean inside = false;
        for (String text : Files.readAllLines(Path.of("README.md"))) {
            if (text.startsWith("```")) {
                inside = text.equals("```java");
            } else if (inside && !text.isBlank()) {
                example.add(text);
            }
        }
    }

    /** The next line of the example without the call that it must begin with. */
    private static String next(String call) {
        String text = line < example.size() ? example.get(line) : "";
        line++;
        checks.holds("line " + line + " of the example: " + call, text.startsWith(call));
        return text.startsWith(call) ? text.substring(call.length()).strip() : "";
    }

    private static void answers(String call, Object got) {
        String told = next(call).replaceFirst("^// ", "").replaceFirst(":.*", "");
        checks.holds(call + " answers " + got + ", the README tells " + told, told.equals(String.valueOf(got)));
    }
}
