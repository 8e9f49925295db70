import java.net.URL;
import java.net.URLClassLoader;
import java.nio.file.Files;
import java.nio.file.Path;
import java.util.Comparator;
import java.util.List;
import java.util.regex.Matcher;
import java.util.regex.Pattern;
import java.util.stream.Stream;
import javax.tools.ToolProvider;

/**
 * What README.md shows is so: its Java blocks, in a row, are compiled and run as one program, and
 * every call in them answers the number that stands behind it.
 */
public final class ReadmeTest {
  private static final Pattern BLOCK = Pattern.compile("(?ms)^```java\n(.*?)^```$");
  private static final Pattern CALL =
      Pattern.compile("(?:int (\\w+) = )?(post\\.\\w+\\(.*\\)); +// (-?\\d+)(?::.*)?");
  private static final Pattern MAKING = Pattern.compile("KitePost \\w+ = new KitePost\\(\\);");

  private static final Due due = new Due();

  public static void main(String[] args) throws Exception {
    Path readme = Path.of("README.md");
    due.holds("README.md is here", Files.exists(readme));
    String page = Files.readString(readme);
    runs(programOf(page));
    namesEveryTest(page);
    due.end();
  }

  /** A class whose method answers() hands on every call with what it should answer. */
  private static String programOf(String page) {
    StringBuilder body = new StringBuilder();
    int calls = 0;
    Matcher blocks = BLOCK.matcher(page);
    while (blocks.find()) {
      for (String line : blocks.group(1).split("\n")) {
        Matcher call = CALL.matcher(line);
        if (MAKING.matcher(line).matches()) {
          body.append(line).append('\n');
        } else if (call.matches()) {
          body.append(linesFor(call.group(1), call.group(2), call.group(3)));
          calls++;
        } else {
          due.holds("a call with its answer: " + line, false);
        }
      }
    }
    due.holds("README.md shows calls: " + calls, calls >= 20);
    return "public final class ReadmeCalls implements java.util.function.Consumer<ReadmeTest.Answer> {\n"
        + "public void accept(ReadmeTest.Answer answer) {\n" + body + "}\n}\n";
  }

  private static String linesFor(String name, String call, String want) {
    String kept = name == null ? "" : "int " + name + " = " + call + ";\n";
    String got = name == null ? call : name;
    return kept + "answer.is(\"" + call + "\", " + got + ", " + want + "L);\n";
  }

  /** What the program made of README.md tells its answers to. */
  public interface Answer {
    void is(String call, long got, long want);
  }

  private static void runs(String program) throws Exception {
    Path room = Files.createTempDirectory("readme");
    try {
      Path file = Files.writeString(room.resolve("ReadmeCalls.java"), program);
      int code = ToolProvider.getSystemJavaCompiler().run(null, null, null,
          "-cp", System.getProperty("java.class.path"), "-d", room.toString(), file.toString());
      due.is("the calls of README.md compile", code, 0);
      if (code == 0) {
        call(room);
      }
    } finally {
      try (Stream<Path> files = Files.walk(room)) {
        files.sorted(Comparator.reverseOrder()).forEach(path -> path.toFile().delete());
      }
    }
  }

  @SuppressWarnings("unchecked")
  private static void call(Path room) throws Exception {
    try (URLClassLoader loader = new URLClassLoader(new URL[] {room.toUri().toURL()})) {
      Object made = loader.loadClass("ReadmeCalls").getDeclaredConstructor().newInstance();
      ((java.util.function.Consumer<Answer>) made).accept(due::is);
    }
  }

  private static void namesEveryTest(String page) throws Exception {
    try (Stream<Path> files = Files.list(Path.of("src/test/java"))) {
      List<String> names = files.map(path -> path.getFileName().toString().replace(".java", "")).sorted().toList();
      for (String name : names) {
        due.holds("README.md names " + name, page.contains(name) || name.endsWith("EdgesTest"));
      }
    }
  }
}
