import java.io.IOException;
import java.net.URL;
import java.net.URLClassLoader;
import java.nio.file.Files;
import java.nio.file.Path;
import java.util.ArrayList;
import java.util.List;
import java.util.regex.Matcher;
import java.util.regex.Pattern;
import javax.tools.ToolProvider;

/**
 * The examples of README.md. They are taken from there, each call with a number behind // is asked
 * for this answer, and what is made of them is compiled and run.
 */
public final class Readme {
  private static final Pattern CALL =
      Pattern.compile("^((?:harbour\\.[a-z]+|bring)\\(.*\\));\\s*// (-?\\d+)(:.*)?$");
  private static final List<String> FACE = List.of("feed", "end", "policy", "load", "compile", "fault", "run",
      "watch", "result", "steps", "poke", "peek", "told", "strays", "digest");
  private static final int EXAMPLES = 3;
  private static int asked = 0;
  private static int wrong = 0;

  /** An example asks this. */
  public static void due(String call, long got, long want) {
    asked++;
    if (got != want) {
      tell(call + " answered " + got + ", README.md says " + want);
    }
  }

  private static void tell(String what) {
    wrong++;
    System.out.println(what);
  }

  private static List<List<String>> javaBlocks(List<String> lines) {
    List<List<String>> blocks = new ArrayList<>();
    List<String> block = null;
    for (String line : lines) {
      if (block == null && line.equals("```java")) {
        block = new ArrayList<>();
      } else if (block != null && line.equals("```")) {
        blocks.add(block);
        block = null;
      } else if (block != null) {
        block.add(line);
      }
    }
    return blocks;
  }

  /** A call that stands by itself must have its answer behind it. */
  private static String checked(String line) {
    Matcher call = CALL.matcher(line);
    if (call.matches()) {
      String quoted = call.group(1).replace("\\", "\\\\").replace("\"", "\\\"");
      return "Readme.due(\"" + quoted + "\", " + call.group(1) + ", " + call.group(2) + "L);";
    }
    if (line.startsWith("harbour.") || line.startsWith("bring(")) {
      tell("no answer behind: " + line);
    }
    return line;
  }

  private static String program(List<List<String>> blocks) {
    StringBuilder members = new StringBuilder();
    StringBuilder calls = new StringBuilder();
    int examples = 0;
    for (List<String> block : blocks) {
      if (block.stream().anyMatch(line -> line.startsWith("static "))) {
        members.append(String.join("\n", block)).append("\n");
        continue;
      }
      examples++;
      members.append("static void example").append(examples).append("() {\n");
      block.forEach(line -> members.append(checked(line)).append("\n"));
      members.append("}\n");
      calls.append("example").append(examples).append("();\n");
    }
    if (examples != EXAMPLES) {
      tell("README.md has " + examples + " examples");
    }
    return "public final class Examples {\n" + members + "public static void main(String[] args) {\n" + calls
        + "}\n}\n";
  }

  private static void compileAndRun(String program) throws IOException, ReflectiveOperationException {
    Path out = Files.createTempDirectory("readme");
    Path file = out.resolve("Examples.java");
    Path made = out.resolve("Examples.class");
    Files.writeString(file, program);
    int failed = ToolProvider.getSystemJavaCompiler().run(null, null, null, "-cp",
        System.getProperty("java.class.path"), "-d", out.toString(), file.toString());
    if (failed != 0) {
      tell("the examples of README.md can't be compiled");
    } else {
      URL[] where = {out.toUri().toURL()};
      try (URLClassLoader loader = new URLClassLoader(where, Readme.class.getClassLoader())) {
        loader.loadClass("Examples").getMethod("main", String[].class).invoke(null, (Object) new String[0]);
      }
    }
    Files.deleteIfExists(made);
    Files.deleteIfExists(file);
    Files.deleteIfExists(out);
  }

  /** Each call of the public face has its row. */
  private static void everyCallIsTold(List<String> lines) {
    for (String name : FACE) {
      if (lines.stream().noneMatch(line -> line.startsWith("| `" + name + "("))) {
        tell("README.md does not say how to use " + name + "()");
      }
    }
  }

  public static void main(String[] args) throws IOException, ReflectiveOperationException {
    List<String> lines = Files.readAllLines(Path.of(args.length > 0 ? args[0] : "README.md"));
    everyCallIsTold(lines);
    compileAndRun(program(javaBlocks(lines)));
    System.out.println(asked + " answers of README.md, " + wrong + " are not as due");
    if (wrong != 0 || asked == 0) {
      System.exit(1);
    }
  }
}
