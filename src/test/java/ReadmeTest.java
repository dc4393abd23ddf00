import java.io.IOException;
import java.lang.reflect.Method;
import java.lang.reflect.Modifier;
import java.net.URL;
import java.net.URLClassLoader;
import java.nio.file.Files;
import java.nio.file.Path;
import java.util.ArrayList;
import java.util.Comparator;
import java.util.List;
import java.util.Set;
import java.util.TreeSet;
import java.util.regex.Matcher;
import java.util.regex.Pattern;
import java.util.stream.Stream;
import javax.tools.ToolProvider;

/** What README.md shows as a use of the class compiles as it stands and answers as README.md says. */
public final class ReadmeTest {
  private static final Checks c = new Checks("ReadmeTest");
  private static final Pattern BLOCK = Pattern.compile("(?ms)^```java\n(.*?)^```$");
  private static final Pattern CALL = Pattern.compile("(?s)[xy]\\.(\\w+)\\(.*");
  private static final Pattern ANSWERED = Pattern.compile("([xy]\\.\\w+\\(.*\\)); +// (-?\\d+|true|false)\\b.*");

  public static void main(String[] args) throws IOException, ReflectiveOperationException {
    StringBuilder members = new StringBuilder();
    StringBuilder shown = new StringBuilder();
    Matcher block = BLOCK.matcher(Files.readString(Path.of("README.md")));
    while (block.find()) (block.group(1).startsWith("static ") ? members : shown).append(block.group(1));
    List<String> due = new ArrayList<>();
    String asked = withAnswersKept(shown.toString(), due);
    String source = "public final class ReadmeUse {\n" + members + "static void asShown() {\n" + shown + "}\n"
        + "public static java.util.List<Object> answers() {\njava.util.List<Object> all = new java.util.ArrayList<>();\n" + asked
        + "return all;\n}\n}\n";
    List<Object> got = answersOf(source);
    c.due("so many answers", got.size(), due.size());
    for (int i = 0; i < Math.min(got.size(), due.size()); i++) {
      String call = due.get(i).substring(due.get(i).indexOf(' ') + 1);
      c.due(call + " answers " + got.get(i) + " and README.md says so", due.get(i).startsWith(got.get(i) + " "), true);
    }
    c.finish();
  }

  /** Each call's answer goes into a list; what README.md says of it, with the call, goes into due. */
  private static String withAnswersKept(String shown, List<String> due) {
    Set<String> left = new TreeSet<>();
    for (Method method : SoldHouse.class.getDeclaredMethods()) {
      if (Modifier.isPublic(method.getModifiers())) left.add(method.getName());
    }
    StringBuilder asked = new StringBuilder();
    for (String line : shown.split("\n")) {
      Matcher call = CALL.matcher(line);
      Matcher answered = ANSWERED.matcher(line);
      if (!call.matches()) {
        asked.append(line).append('\n');
        continue;
      }
      c.due("[" + line + "] has its answer behind it", answered.matches(), true);
      if (answered.matches()) {
        asked.append("all.add(").append(answered.group(1)).append(");\n");
        due.add(answered.group(2) + " " + answered.group(1));
        left.remove(call.group(1));
      }
    }
    c.due("README.md shows all of the face but for " + left, left.size(), 0);
    return asked.toString();
  }

  private static List<Object> answersOf(String source) throws IOException, ReflectiveOperationException {
    Path made = Files.createTempDirectory("readme");
    try {
      Path file = made.resolve("ReadmeUse.java");
      Files.writeString(file, source);
      int failed = ToolProvider.getSystemJavaCompiler().run(null, null, null, "-Xlint:all", "-Werror", "-cp",
          System.getProperty("java.class.path"), "-d", made.toString(), file.toString());
      c.due("what README.md shows compiles", failed, 0);
      if (failed != 0) return List.of();
      try (URLClassLoader loader = new URLClassLoader(new URL[] {made.toUri().toURL()})) {
        List<Object> all = new ArrayList<>();
        for (Object one : (List<?>) loader.loadClass("ReadmeUse").getMethod("answers").invoke(null)) all.add(one);
        return all;
      }
    } finally {
      try (Stream<Path> files = Files.walk(made)) {
        for (Path one : files.sorted(Comparator.reverseOrder()).toList()) Files.delete(one);
      }
    }
  }
}
