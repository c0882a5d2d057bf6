import java.io.IOException;
import java.nio.file.Files;
import java.nio.file.Path;
import java.util.regex.Matcher;
import java.util.regex.Pattern;

/** What README.md shows is so: the calls of its example, in their order, and the list of calls. */
public final class ReadmeTest {
    /** A call on house; if the comment behind it begins with a number, that is the answer. */
    private static final Pattern SHOWN =
            Pattern.compile("house\\.(\\w+)\\(([-\\d, ]*)\\);\\s*// (?:(-?\\d+)\\b)?");
    private static final Pattern LISTED = Pattern.compile("\\| `(\\w+)\\(([\\w, ]*)\\)` \\|");
    private static final int FACE_METHODS = 16;

    public static void main(String[] args) throws IOException {
        String text = Files.readString(Path.of("README.md"));
        example(text);
        list(text);
        Check.end();
    }

    private static void example(String text) {
        LayerQuantities house = new LayerQuantities();
        Matcher shown = SHOWN.matcher(text);
        int answers = 0;
        while (shown.find()) {
            Call call = new Call(shown.group(1), numbers(shown.group(2)));
            String answer = call.on(house);
            Check.holds(call + " answered " + answer, !answer.startsWith("throws."));
            if (shown.group(3) != null) {
                Check.equal(call.toString(), answer, shown.group(3));
                answers++;
            }
        }
        Check.holds("the example shows answers", answers > 0);
    }

    private static int[] numbers(String list) {
        String[] parts = list.isBlank() ? new String[0] : list.split(", ");
        int[] numbers = new int[parts.length];
        for (int i = 0; i < parts.length; i++) {
            numbers[i] = Integer.parseInt(parts[i]);
        }
        return numbers;
    }

    /** A call that the class has not would end the test with an error. */
    private static void list(String text) {
        Matcher listed = LISTED.matcher(text);
        int calls = 0;
        while (listed.find()) {
            int count = listed.group(2).isBlank() ? 0 : listed.group(2).split(", ").length;
            new Call(listed.group(1), new int[count]).on(new LayerQuantities());
            calls++;
        }
        Check.same("calls in the list", calls, FACE_METHODS);
    }
}
