import java.io.IOException;
import java.nio.file.Files;
import java.nio.file.Path;
import java.util.ArrayList;
import java.util.List;
import java.util.regex.Matcher;
import java.util.regex.Pattern;
import java.util.stream.Stream;

/** The words that the tests of bounds name stand in the document, and no word of a promise or of the Terms is left out. */
public final class QuotesTest {
  private static final Checks c = new Checks("QuotesTest");
  private static final Path DOCUMENT = Path.of("../shared/DOC.md");
  private static final Pattern PROMISE = Pattern.compile("c\\.promise\\((\\d+), \"([^\"]*)\"\\)");
  private static final Pattern TERM = Pattern.compile("c\\.term\\(\"([^\"]*)\"\\)");
  private static final int PROMISES = 51;

  public static void main(String[] args) throws IOException {
    String document = Files.readString(DOCUMENT);
    String tests = boundsTests();
    covered("Terms", between(document, "## Terms", "The constants:"), quotes(TERM.matcher(tests), 1, ""));
    for (int n = 1; n <= PROMISES; n++) {
      String section = between(document, "## Promise " + n + ":", "\n## ");
      String words = section.substring(section.indexOf("`: ") + 3);
      covered("Promise " + n, words, quotes(PROMISE.matcher(tests), 2, String.valueOf(n)));
    }
    c.finish();
  }

  private static String boundsTests() throws IOException {
    StringBuilder all = new StringBuilder();
    try (Stream<Path> files = Files.list(Path.of("src/test/java"))) {
      for (Path file : files.sorted().toList()) {
        if (file.toString().endsWith("BoundsTest.java")) all.append(Files.readString(file));
      }
    }
    return all.toString();
  }

  private static String between(String text, String from, String to) {
    int start = text.indexOf(from) + from.length();
    int end = text.indexOf(to, start);
    return text.substring(start, end < 0 ? text.length() : end).replace("```text", "").replace("```", "").replaceAll("==== \\d\\.", "")
        .replaceAll("\\s+", " ");
  }

  private static List<String> quotes(Matcher found, int group, String number) {
    List<String> quotes = new ArrayList<>();
    while (found.find()) {
      if (group == 1 || found.group(1).equals(number)) quotes.add(found.group(group).replaceAll("\\s+", " "));
    }
    return quotes;
  }

  private static void covered(String where, String words, List<String> quotes) {
    boolean[] named = new boolean[words.length()];
    for (String quote : quotes) {
      int at = words.indexOf(quote);
      c.due(where + " says [" + quote + "]", at >= 0, true);
      for (int i = 0; at >= 0 && i < quote.length(); i++) named[at + i] = true;
    }
    StringBuilder left = new StringBuilder();
    for (int i = 0; i < words.length(); i++) {
      if (!named[i] && Character.isLetterOrDigit(words.charAt(i))) left.append(words.charAt(i));
      else if (left.length() > 0 && left.charAt(left.length() - 1) != ' ') left.append(' ');
    }
    c.due(where + " is named but for [" + left.toString().trim() + "]", left.toString().isBlank(), true);
  }
}
