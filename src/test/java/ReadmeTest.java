import java.io.IOException;
import java.nio.file.Files;
import java.nio.file.Path;
import java.util.HashMap;
import java.util.Map;
import java.util.regex.Matcher;
import java.util.regex.Pattern;

/** The example of README.md answers what its comments say: a number or a text ahead of ":" or ",". */
public final class ReadmeTest {
  private static final Pattern CALL = Pattern.compile("(?:int (\\w+) = )?keeper\\.(\\w+)\\((.*?)\\); *// (.*)");
  private static final Pattern DUE = Pattern.compile("(?:.*: the \\w+ (\\d+)$)|(?:(\\d+): .*)|(?:\"(\\d+)\".*)");

  private ReadmeTest() {
  }

  public static void main(String[] args) throws IOException {
    Indexkeeper keeper = new Indexkeeper();
    Map<String, String> numbers = new HashMap<>();
    int compared = 0;
    int made = 0;
    for (String line : Files.readAllLines(Path.of("README.md"))) {
      Matcher call = CALL.matcher(line);
      if (!call.matches()) {
        continue;
      }
      StringBuilder text = new StringBuilder(call.group(2));
      for (String word : call.group(3).split(", *")) {
        text.append(' ').append(numbers.getOrDefault(word, word));
      }
      String got = ScriptHelp.ask(keeper, text.toString());
      made++;
      numbers.put("" + call.group(1), got);
      Matcher due = DUE.matcher(call.group(4));
      if (due.matches()) {
        String want = due.group(1) != null ? due.group(1) : due.group(2) != null ? due.group(2) : due.group(3);
        ScriptHelp.due("README.md", text.toString(), got, want);
        compared++;
      }
    }
    ScriptHelp.due("README.md", "the calls that are made", made, 12);
    ScriptHelp.due("README.md", "the answers that are compared", compared, 8);
    ScriptHelp.close("readme");
  }
}
