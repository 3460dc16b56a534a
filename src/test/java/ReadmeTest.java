import java.lang.reflect.Method;
import java.lang.reflect.Modifier;
import java.net.URL;
import java.net.URLClassLoader;
import java.nio.file.Files;
import java.nio.file.Path;
import java.util.Comparator;
import java.util.List;
import java.util.regex.Matcher;
import java.util.regex.Pattern;
import java.util.stream.Stream;
import javax.tools.ToolProvider;

/** The calls in README.md answer what stands behind them there, and its table has all calls. */
public final class ReadmeTest {
  private static final Pattern BLOCK = Pattern.compile("(?s)```java\n(.*?)```");
  private static final Pattern LINE = Pattern.compile("(x\\..*);\\s*// (throws (\\w+)|\"[^\"]*\"|-?\\d+|true|false)(: .*)?");
  private static final String MAKE = "Wishsolver x = new Wishsolver();";

  private ReadmeTest() {}

  public static void main(String[] args) throws Exception {
    String page = Files.readString(Path.of("README.md"));
    tableHasAll(page);
    Path room = Files.createTempDirectory("readme");
    Method end = null;
    try {
      end = run(room, program(page));
    } finally {
      try (Stream<Path> all = Files.walk(room)) {
        for (Path one : all.sorted(Comparator.reverseOrder()).toList()) Files.delete(one);
      }
    }
    Check.end("ReadmeTest");
    if (end != null) end.invoke(null, "README.md");
  }

  /** The page's calls as a program; each call with its answer is a line of it. */
  private static String program(String page) {
    StringBuilder all = new StringBuilder("public final class Page {\n  public static void calls() {\n");
    Matcher blocks = BLOCK.matcher(page);
    int count = 0;
    while (blocks.find()) {
      all.append("  {\n");
      long number = page.substring(0, blocks.start(1)).lines().count();
      for (String line : blocks.group(1).split("\n")) {
        number++;
        Matcher m = LINE.matcher(line);
        if (line.equals(MAKE)) all.append(MAKE).append('\n');
        else if (m.matches()) all.append(check(m, number));
        else Check.same("README.md's line " + number + ": " + line, "not a call with its answer", "one");
      }
      all.append("  }\n");
      count++;
    }
    Check.same("README.md has calls", count > 0, true);
    return all.append("  }\n}\n").toString();
  }

  private static String check(Matcher m, long number) {
    String call = m.group(1);
    String name = "\"README.md, line " + number + ": " + call + "\"";
    if (m.group(3) == null) return "Check.same(" + name + ", " + call + ", " + m.group(2) + ");\n";
    return "{ Object got = \"nothing\"; try { got = " + call + "; } catch (RuntimeException e) { got = e.getClass().getSimpleName(); }"
      + " Check.same(" + name + ", got, \"" + m.group(3) + "\"); }\n";
  }

  /** Makes the page's calls and returns what tells whether all answers were due; null if they don't compile. */
  private static Method run(Path room, String program) throws Exception {
    Path source = room.resolve("Page.java");
    Files.writeString(source, program);
    String classes = System.getProperty("java.class.path");
    int bad = ToolProvider.getSystemJavaCompiler().run(null, null, null, "-proc:none", "-cp", classes, "-d", room.toString(), source.toString());
    Check.same("README.md's calls compile", bad, 0);
    if (bad != 0) return null;
    // Check is package-private: the page's class must come from the same loader as Check.
    URL[] places = Stream.concat(Stream.of(room), Stream.of(classes.split(java.io.File.pathSeparator)).map(Path::of)).map(ReadmeTest::url).toArray(URL[]::new);
    try (URLClassLoader loader = new URLClassLoader(places, ClassLoader.getPlatformClassLoader())) {
      loader.loadClass("Page").getMethod("calls").invoke(null);
      Method end = loader.loadClass("Check").getDeclaredMethod("end", String.class);
      end.setAccessible(true);
      return end;
    }
  }

  private static URL url(Path place) {
    try {
      return place.toUri().toURL();
    } catch (java.net.MalformedURLException e) {
      throw new IllegalStateException(e);
    }
  }

  private static void tableHasAll(String page) {
    List<String> rows = page.lines().filter(line -> line.startsWith("| ")).toList();
    for (Method method : Wishsolver.class.getDeclaredMethods()) {
      if (!Modifier.isPublic(method.getModifiers())) continue;
      Matcher m = Pattern.compile("`" + method.getName() + "\\(([^)]*)\\)`").matcher(String.join("\n", rows));
      int due = method.getParameterCount();
      int got = !m.find() ? -1 : m.group(1).isEmpty() ? 0 : m.group(1).split(", ").length;
      Check.same("README.md's table: arguments of " + method.getName(), got, due);
    }
  }
}
