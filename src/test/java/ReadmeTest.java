import java.io.IOException;
import java.nio.file.Files;
import java.nio.file.Path;
import java.util.regex.Matcher;
import java.util.regex.Pattern;

/** The calls that README.md shows, with the answers that it tells beside them. */
public final class ReadmeTest extends Checks {
    private static final Path README = Path.of(System.getProperty("project", ".")).resolve("README.md");
    private static String readme;

    /** The call's answer is due as README.md tells it behind the call. */
    private static void shown(String call, long got) {
        Matcher line = Pattern.compile(Pattern.quote(call) + "; +// (-?\\d+|true|false)\\b").matcher(readme);
        boolean stands = line.find();
        due(call + " stands in README.md", stands, true);
        if (stands) {
            String told = line.group(1);
            due(call, got, told.equals("true") ? 1 : told.equals("false") ? 0 : Long.parseLong(told));
        }
    }

    private static String shownLane() {
        Matcher text = Pattern.compile("tell\\(x, \"(.*)\"\\s+\\+ \"(.*)\"\\);  // 1\n").matcher(readme);
        boolean stands = text.find();
        due("the lane stands in README.md", stands, true);
        return stands ? text.group(1) + text.group(2) : "";
    }

    public static void main(String[] args) throws IOException {
        readme = Files.readString(README);
        TuneApproval x = new TuneApproval();
        put(x, shownLane());
        due("lane()", x.lane(), 1);
        shown("x.glad(0, 0)", x.glad(0, 0));
        shown("x.takes(0)", x.takes(0));
        shown("x.bring(0, 0)", x.bring(0, 0));
        shown("x.week()", x.week());
        shown("x.house(0, 1)", x.house(0, 1));
        shown("x.undo()", x.undo() ? 1 : 0);
        shown("x.round(0)", x.round(0));
        shown("x.lies(0)", x.lies(0));
        report("ReadmeTest");
    }
}
