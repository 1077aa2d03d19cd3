import java.io.IOException;
import java.nio.file.Files;
import java.nio.file.Path;
import java.util.ArrayList;
import java.util.List;
import java.util.regex.Matcher;
import java.util.regex.Pattern;

/** README.md tells what its calls answer; they are asked here in its order, and must answer that. */
public final class ReadmeTest {
    private static final Pattern CALL = Pattern.compile("    picker\\.(.*\\)); +// ([-0-9.]+)(: .*)?");

    private final AreaPicker picker = new AreaPicker();
    private final List<String> asked = new ArrayList<>();

    public static void main(String[] args) throws IOException {
        Path readme = Path.of(args.length > 0 ? args[0] : ".", "README.md");
        ReadmeTest test = new ReadmeTest();
        test.ask();
        test.compare(told(Files.readAllLines(readme)));
        Check.close();
    }

    private static List<String> told(List<String> lines) {
        List<String> told = new ArrayList<>();
        for (String line : lines) {
            Matcher m = CALL.matcher(line);
            if (m.matches()) {
                told.add(m.group(1) + " " + m.group(2));
            } else if (line.startsWith("    picker.")) {
                told.add(line.trim() + " tells no answer");
            }
        }
        return told;
    }

    private void answered(String call, Object answer) {
        asked.add(call + " " + answer);
    }

    private void ask() {
        answered("draw(4, 0, 4, 9, 90)", picker.draw(4, 0, 4, 9, 90));
        answered("draw(4, 4, 4, 4, 50)", picker.draw(4, 4, 4, 4, 50));
        answered("areaOf(0, 0, 5, 0, 0)", picker.areaOf(0, 0, 5, 0, 0));
        answered("partingGap(0, 0, 15, 0, 5)", picker.partingGap(0, 0, 15, 0, 5));
        answered("pick(0, 0, 5, 0, 1, 20)", picker.pick(0, 0, 5, 0, 1, 20));
        answered("level(0, 4, 0)", picker.level(0, 4, 0));
        answered("coverage()", picker.coverage());
        answered("fill(99)", picker.fill(99));
        answered("cell(4, 0, 0)", picker.cell(4, 0, 0));
        answered("toggle(0)", picker.toggle(0));
        answered("undo()", picker.undo());
        answered("append('7')", picker.append('7'));
        answered("append(':')", picker.append(':'));
        answered("append('0')", picker.append('0'));
        answered("firstError()", picker.firstError());
        answered("load()", picker.load());
    }

    private void compare(List<String> told) {
        Check.same("calls that README.md tells of", told.size(), asked.size());
        for (int i = 0; i < told.size() && i < asked.size(); i++) {
            Check.sameText("README.md, call " + (i + 1), told.get(i), asked.get(i));
        }
    }
}
