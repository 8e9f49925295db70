import java.nio.file.Files;
import java.nio.file.Path;
import java.util.regex.Matcher;
import java.util.regex.Pattern;

/** What of LANGUAGE.md can be seen in the program's text (rules 2, 4, 6, 10, 11, 13). */
public final class LanguageTest {
  private static final String[] FORBIDDEN = {
    "\\bthrow\\b", "\\bthrows\\b", "\\btry\\b", "\\bcatch\\b", "\\bfinally\\b", "\\bsynchronized\\b", "\\bassert\\b",
    "\\bpackage\\b", "\\bvolatile\\b", "\\bnative\\b", "\\bvar\\b", "->", "::", "Exact\\s*\\(", "\\bdouble\\b",
    "\\bfloat\\b", "\\.equals\\b", "\\bhashCode\\b", "\\btoString\\b", "\\bObject\\b", "\\bSystem\\.(?!arraycopy)",
    "\\bwhile\\s*\\(\\s*true", "\\bRandom\\b", "\\bThread\\b", "@", "\"\\s*\\+", "\\+\\s*\"", "\\bstatic\\s*\\{"
  };

  private static final Due due = new Due();

  public static void main(String[] args) throws Exception {
    String source = Files.readString(Path.of(System.getProperty("program", "src/main/java/KitePost.java")));
    for (char c : source.toCharArray()) {
      if (c > 126 || c < 32 && c != '\n') {
        due.holds("only plain signs, but there is " + (int) c, false);
      }
    }
    String code = source.replaceAll("(?s)/\\*.*?\\*/", "").replaceAll("//[^\n]*", "")
        .replaceAll("\"[^\"\n]*\"", "\"\"");
    for (String forbidden : FORBIDDEN) {
      Matcher m = Pattern.compile(forbidden).matcher(code);
      due.holds("no " + forbidden, !m.find());
    }
    Matcher imports = Pattern.compile("\\bimport ([^;]*);").matcher(code);
    while (imports.find()) {
      due.holds("may import " + imports.group(1), imports.group(1).matches("java\\.util\\.(Arrays|ArrayList|List|Iterator)"));
    }
    methodsAreShort(source);
    due.end();
  }

  /** By their indentation: from a line that opens a method to the brace that closes it. */
  private static void methodsAreShort(String source) {
    Matcher m = Pattern.compile("(?m)^( {4}| {8})(?!(?:private )?(?:static )?(?:final )?class )\\S[^\n;=]*\\{\n(?s:(.*?))^\\1\\}").matcher(source);
    int methods = 0;
    while (m.find()) {
      methods++;
      int lines = m.group(2).split("\n").length + 2;
      due.holds(m.group().lines().findFirst().get().trim() + " has " + lines + " lines", lines <= 60);
    }
    due.holds("methods were seen: " + methods, methods > 100);
  }
}
