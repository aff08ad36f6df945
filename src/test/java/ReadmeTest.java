import java.io.IOException;
import java.nio.file.Files;
import java.nio.file.Path;
import java.util.ArrayList;
import java.util.List;
import java.util.regex.Matcher;
import java.util.regex.Pattern;

/** That README.md tells the truth: its calls, made in its order on one object, answer what it says. */
public final class ReadmeTest {
    private static final Pattern ROW = Pattern.compile("\\| `(\\w+)\\(([-0-9, ]*)\\)` \\| (\\S+) \\|.*");
    private static final String[] ASKED = {
        "program", "fault", "count", "policy", "type", "slot", "element", "fun", "run", "result", "output", "thread", "image",
        "byteAt",
    };

    public static void main(String[] args) throws IOException, ReflectiveOperationException {
        List<String> lines = Files.readAllLines(Path.of("README.md"));
        List<String> own = Files.readAllLines(Path.of("src/test/java/ReadmeTest.java"));
        House.due("the way to the tape in README.md is that of this test", holds(own, block(lines, "```java")), true);
        FlatHouse x = new FlatHouse();
        x.feed(1, 2, 3, 4, 5);
        House.due("tape", tape(x, String.join("\n", block(lines, "```text"))), true);
        List<String> asked = new ArrayList<>();
        for (String line : lines) {
            Matcher row = ROW.matcher(line);
            if (row.matches()) {
                asked.add(row.group(1));
                String call = "README.md: " + row.group(1) + "(" + row.group(2) + ")";
                House.due(call, answer(x, row.group(1), row.group(2)), number(row.group(3)));
            }
        }
        for (String name : ASKED) {
            House.due("README.md tells of " + name, asked.contains(name), true);
        }
        House.finish();
    }

    static boolean tape(FlatHouse x, String text) {
        boolean all = x.end(0);
        for (int at = 0; at < text.length(); at += 20) {
            int[] five = new int[5];
            for (int i = 0; i < 20; i++) {
                five[i / 4] = five[i / 4] << 8 | (at + i < text.length() ? text.charAt(at + i) : ' ');
            }
            all &= x.feed(five[0], five[1], five[2], five[3], five[4]);
        }
        return all && x.end(text.length());
    }

    /** The lines between a fence and its end, the first such. */
    private static List<String> block(List<String> lines, String fence) {
        int from = lines.indexOf(fence) + 1;
        int to = from;
        while (!lines.get(to).equals("```")) {
            to++;
        }
        return lines.subList(from, to);
    }

    /** Whether the part stands in the whole, wherever its lines begin. */
    private static boolean holds(List<String> whole, List<String> part) {
        return !part.isEmpty() && joined(whole).contains(joined(part));
    }

    private static String joined(List<String> lines) {
        StringBuilder all = new StringBuilder();
        for (String line : lines) {
            all.append(line.trim()).append('\n');
        }
        return all.toString();
    }

    private static long answer(FlatHouse x, String name, String arguments) throws ReflectiveOperationException {
        String[] given = arguments.isEmpty() ? new String[0] : arguments.split(", ");
        Class<?>[] types = new Class<?>[given.length];
        Object[] numbers = new Object[given.length];
        for (int i = 0; i < given.length; i++) {
            types[i] = int.class;
            numbers[i] = Integer.valueOf(given[i]);
        }
        return number(String.valueOf(FlatHouse.class.getMethod(name, types).invoke(x, numbers)));
    }

    private static long number(String told) {
        return told.equals("true") ? 1 : told.equals("false") ? 0 : Long.parseLong(told);
    }
}
