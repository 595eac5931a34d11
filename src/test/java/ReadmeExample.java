import java.io.IOException;
import java.lang.reflect.Method;
import java.lang.reflect.Modifier;
import java.nio.file.Files;
import java.nio.file.Path;
import java.util.ArrayList;
import java.util.Arrays;
import java.util.List;
import java.util.regex.Matcher;
import java.util.regex.Pattern;
import java.util.stream.Collectors;

/** README.md tells of every method of the public face, and the answers in its example are those of the class. */
public final class ReadmeExample {
  private static final Pattern CALL = Pattern.compile("x\\.(\\w+\\(.*\\)); *// (-?\\d+): .*");
  private static final Pattern MADE =
      Pattern.compile("MobileCall x = new MobileCall\\((-?\\d+), (-?\\d+), (-?\\d+)\\);");

  public static void main(String[] args) throws IOException {
    List<String> readme = Files.readAllLines(Path.of("README.md"));
    example(readme.subList(readme.indexOf("```java") + 1, readme.lastIndexOf("```")));
    everyMethod(readme);
    Script.due("README.md names .ci/run", String.join("\n", readme).contains("`.ci/run`"), true);
    everyTest(String.join("\n", readme));
    Script.end();
  }

  private static void example(List<String> after) {
    List<String> lines = after.subList(0, after.indexOf("```"));
    Matcher made = MADE.matcher(lines.get(0));
    Script.due("the object of README.md", made.matches(), true);
    List<String> script = new ArrayList<>();
    for (String line : lines.subList(1, lines.size())) {
      Matcher call = CALL.matcher(line);
      Script.due("a call with its answer: " + line, call.matches(), true);
      script.add(call.group(1).replace("L,", ",") + " = " + call.group(2));
    }
    Script.run("README.md", new MobileCall(Integer.parseInt(made.group(1)), Integer.parseInt(made.group(2)),
        Integer.parseInt(made.group(3))), script.toArray(new String[0]));
  }

  private static void everyMethod(List<String> readme) {
    for (Method m : MobileCall.class.getDeclaredMethods()) {
      if (Modifier.isPublic(m.getModifiers())) {
        String types = Arrays.stream(m.getParameterTypes()).map(t -> t.getName() + " \\w+")
            .collect(Collectors.joining(", "));
        Pattern row = Pattern.compile("\\| `" + m.getName() + "\\(" + types + "\\)` \\|.*");
        Script.due("lines of README.md for " + m.getName(),
            readme.stream().filter(line -> row.matcher(line).matches()).count(), 1L);
      }
    }
  }

  /** Promise02 to Promise17 stand there as a range. */
  private static void everyTest(String readme) throws IOException {
    try (var files = Files.list(Path.of("src/test/java"))) {
      for (Path file : files.filter(f -> f.toString().endsWith(".java")).collect(Collectors.toList())) {
        String name = file.getFileName().toString().replace(".java", "");
        Script.due("README.md names the test " + name,
            readme.contains("`" + name + "`") || name.startsWith("Promise"), true);
      }
    }
  }
}
