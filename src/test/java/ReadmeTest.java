import java.lang.reflect.Method;
import java.lang.reflect.Modifier;
import java.net.URL;
import java.net.URLClassLoader;
import java.nio.file.Files;
import java.nio.file.Path;
import java.util.regex.Matcher;
import java.util.regex.Pattern;
import javax.tools.ToolProvider;

/**
 * Makes a program of the Java on README.md's page and runs it: what stands behind a call there must be its answer.
 */
public final class ReadmeTest extends TestBase {
  private static final Pattern BLOCK = Pattern.compile("(?s)```java\n(.*?)```");
  private static final Pattern ANSWERED = Pattern.compile("(int \\w+ = )?(.+); +// (-?\\d+)\\b.*");
  private static int answers = 0;

  public static void main(String[] args) throws Exception {
    String page = Files.readString(Path.of("README.md"));
    where = "README.md";
    runExample(program(page));
    due("answers on the page (some are there: 1)", answers > 0 ? 1 : 0, 1);
    for (Method call : SevenEights.class.getDeclaredMethods()) {
      if (Modifier.isPublic(call.getModifiers())) due("is " + call.getName() + " named: 1", page.contains("`" + call.getName() + "`") ? 1 : 0, 1);
    }
    end(answers + " answers on the page are right");
  }

  /** Called by the example for each answer on the page. */
  public static void answered(String call, long got, long want) {
    answers++;
    due(call, got, want);
  }

  /** Functions stand beside main, all else in it. */
  private static String program(String page) {
    StringBuilder functions = new StringBuilder(), body = new StringBuilder();
    Matcher blocks = BLOCK.matcher(page);
    while (blocks.find()) {
      if (blocks.group(1).startsWith("static ")) functions.append(blocks.group(1));
      else for (String line : blocks.group(1).split("\n")) body.append(checked(line)).append('\n');
    }
    return "public class ReadmeExample {\n" + functions + "public static void main(String[] args) {\n" + body + "}\n}\n";
  }

  private static String checked(String line) {
    Matcher parts = ANSWERED.matcher(line);
    if (!parts.matches()) return line;
    String call = parts.group(2), want = parts.group(3) + "L);";
    String told = "ReadmeTest.answered(\"" + call.replace("\"", "\\\"") + "\", ";
    if (parts.group(1) == null) return told + call + ", " + want;
    return parts.group(1) + call + "; " + told + parts.group(1).split(" ")[1] + ", " + want;
  }

  private static void runExample(String source) throws Exception {
    Path out = Files.createTempDirectory("readme");
    Path file = Files.writeString(out.resolve("ReadmeExample.java"), source);
    String path = System.getProperty("java.class.path");
    int code = ToolProvider.getSystemJavaCompiler().run(null, null, null, "-cp", path, "-d", out.toString(), file.toString());
    due("compiling the Java on the page", code, 0);
    if (code == 0) {
      try (URLClassLoader loader = new URLClassLoader(new URL[] {out.toUri().toURL()})) {
        loader.loadClass("ReadmeExample").getMethod("main", String[].class).invoke(null, (Object) new String[0]);
      }
    }
    Files.deleteIfExists(out.resolve("ReadmeExample.class"));
    Files.delete(file);
    Files.delete(out);
  }
}
