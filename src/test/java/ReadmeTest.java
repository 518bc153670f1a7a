import java.io.File;
import java.lang.reflect.Method;
import java.lang.reflect.Modifier;
import java.net.URL;
import java.net.URLClassLoader;
import java.nio.file.Files;
import java.nio.file.Path;
import java.util.ArrayList;
import java.util.List;
import java.util.Set;
import java.util.TreeSet;
import java.util.regex.Matcher;
import java.util.regex.Pattern;
import javax.tools.JavaCompiler;
import javax.tools.ToolProvider;

/** README.md is so: its example compiles and answers as it tells, and its tables name every call, answer and test. */
public final class ReadmeTest {
  private static final Pattern TOLD = Pattern.compile("(x\\.\\w+\\(.*\\)); *// (-?\\d+): (.*)");

  public static void main(String[] args) throws Exception {
    String readme = Files.readString(Path.of("README.md"));
    Given.sentence("README.md");
    example(readme);
    calls(readme);
    answers(readme);
    tests(readme);
    Given.finish("README.md is so");
  }

  /** Public, as the example is of another loader. */
  public static void due(String call, int got, int want) { Given.due(call, got, want); }

  private static void example(String readme) throws Exception {
    Matcher block = Pattern.compile("(?s)```java\n(.*?)```").matcher(readme);
    if (!block.find()) {
      Given.fail("there is no example");
      return;
    }
    int told = 0;
    StringBuilder source = new StringBuilder("public final class ReadmeExample {\n  public static void run() {\n");
    for (String line : block.group(1).split("\n")) {
      Matcher call = TOLD.matcher(line);
      if (call.matches()) {
        told++;
        source.append("ReadmeTest.due(\"the example's ").append(call.group(1)).append("\", ").append(call.group(1)).append(", ").append(call.group(2)).append(");\n");
        if (Integer.parseInt(call.group(2)) < 0) named(call.group(2), call.group(3));
      } else {
        source.append(line).append('\n');
      }
    }
    if (told < 20) Given.fail("only " + told + " answers are told");
    run(source.append("  }\n}\n").toString());
  }

  /** An answer that has a constant bears its name. */
  private static void named(String answer, String words) {
    String[] names = {"BAD", "STATE", "FULL", "NONE"};
    int i = -1 - Integer.parseInt(answer);
    if (i < names.length && !words.startsWith(names[i])) Given.fail("the example tells " + answer + " by " + words);
  }

  private static void run(String source) throws Exception {
    JavaCompiler javac = ToolProvider.getSystemJavaCompiler();
    if (javac == null) {
      Given.fail("there is no compiler");
      return;
    }
    Path room = Files.createTempDirectory("readme");
    Path file = room.resolve("ReadmeExample.java");
    Files.writeString(file, source);
    int code = javac.run(null, null, null, "-d", room.toString(), "-cp", System.getProperty("java.class.path"), file.toString());
    if (code != 0) {
      Given.fail("the example does not compile");
    } else {
      try (URLClassLoader loader = new URLClassLoader(new URL[] {room.toUri().toURL()}, ReadmeTest.class.getClassLoader())) {
        loader.loadClass("ReadmeExample").getMethod("run").invoke(null);
      }
    }
    for (File f : room.toFile().listFiles()) f.delete();
    Files.delete(room);
  }

  /** The table of calls has each method of the face once, with as many arguments, and no other. */
  private static void calls(String readme) {
    List<String> named = new ArrayList<>();
    for (String row : part(readme, "### The calls").split("\n")) {
      if (!row.startsWith("| `")) continue;
      Matcher call = Pattern.compile("`(\\w+)\\((.*?)\\)`").matcher(row.split("\\|")[1]);
      while (call.find()) named.add(call.group(1) + " " + (call.group(2).isEmpty() ? 0 : call.group(2).split(",").length));
    }
    Set<String> due = new TreeSet<>();
    for (Method m : WeighedSelf.class.getDeclaredMethods()) {
      if (Modifier.isPublic(m.getModifiers())) due.add(m.getName() + " " + m.getParameterCount());
    }
    if (named.size() != due.size() || !due.equals(new TreeSet<>(named))) Given.fail("the table of calls has " + named);
  }

  private static void answers(String readme) {
    String table = part(readme, "### What the answers mean");
    String[] rows = {"| " + WeighedSelf.BAD + " | `BAD` |", "| " + WeighedSelf.STATE + " | `STATE` |", "| " + WeighedSelf.FULL + " | `FULL` |", "| " + WeighedSelf.NONE + " | `NONE` |"};
    for (String row : rows) if (!table.contains(row)) Given.fail("the table of answers lacks " + row);
  }

  private static void tests(String readme) {
    Set<String> named = new TreeSet<>(), there = new TreeSet<>();
    Matcher row = Pattern.compile("(?m)^\\| `(\\w+Test)` \\|").matcher(part(readme, "## Tests"));
    while (row.find()) named.add(row.group(1));
    for (String file : new File("src/test/java").list()) if (file.endsWith("Test.java")) there.add(file.replace(".java", ""));
    if (!named.equals(there)) Given.fail("the table of tests has " + named + ", there are " + there);
  }

  /** From a heading to the next one. */
  private static String part(String readme, String heading) {
    int from = readme.indexOf("\n" + heading + "\n");
    if (from < 0) {
      Given.fail("there is no " + heading);
      return "";
    }
    int to = readme.indexOf("\n#", from + 1);
    return to < 0 ? readme.substring(from) : readme.substring(from, to);
  }
}
