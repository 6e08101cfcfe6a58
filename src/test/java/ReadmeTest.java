import java.io.IOException;
import java.lang.reflect.Method;
import java.lang.reflect.Modifier;
import java.nio.file.Files;
import java.nio.file.Path;
import java.util.ArrayList;
import java.util.List;
import java.util.Map;
import java.util.Set;
import java.util.TreeMap;
import java.util.TreeSet;
import java.util.regex.Matcher;
import java.util.regex.Pattern;

/** What README.md tells of the class and of its tests is so; the source's path is the first argument. */
public final class ReadmeTest {
  private static final Pattern EXAMPLE = Pattern.compile("(?m)^page\\.(.+?\\));\\s*// (-?\\d+|true|false),");
  private static final Pattern ROW = Pattern.compile("(?m)^\\| `(\\w+)\\((.*?)\\)` \\|");
  private static int examples;
  private static int wrong;

  private static void hold(boolean holds, String what) {
    if (!holds) { wrong++; System.out.println("README.md: " + what); }
  }

  private static void checkExamples(String readme) {
    TextPage page = new TextPage();
    Matcher found = EXAMPLE.matcher(readme);
    while (found.find()) {
      int want = switch (found.group(2)) {
        case "true" -> 1;
        case "false" -> 0;
        default -> Integer.parseInt(found.group(2));
      };
      int got = page.ask(found.group(1));
      hold(got == want, found.group(1) + " answered " + got + ", the file says " + want);
      examples++;
    }
    hold(examples == readme.split("(?m)^page\\.", -1).length - 1, "an example without an answer");
    hold(examples > 0, "no examples");
  }

  /** Each call that the class has, with its types, stands in the table once, and no other. */
  private static void checkCalls(String readme) {
    Map<String, String> rows = new TreeMap<>();
    Matcher found = ROW.matcher(readme);
    while (found.find()) {
      String types = found.group(2).replaceAll(" \\w+(?=,|$)", "");
      hold(rows.put(found.group(1), types) == null, found.group(1) + " stands twice in the table");
    }
    Map<String, String> face = new TreeMap<>();
    for (Method each : RisingPage.class.getDeclaredMethods()) {
      if (!Modifier.isPublic(each.getModifiers())) continue;
      List<String> types = new ArrayList<>();
      for (Class<?> type : each.getParameterTypes()) types.add(type.getSimpleName());
      face.put(each.getName(), String.join(", ", types));
    }
    hold(rows.equals(face), "the table has " + rows + ", the class " + face);
  }

  private static void checkTests(Path root, String readme) throws IOException {
    Set<String> told = new TreeSet<>();
    Matcher found = Pattern.compile("`(\\w+Test)`").matcher(readme);
    while (found.find()) told.add(found.group(1));
    Set<String> present = new TreeSet<>();
    try (var files = Files.list(root.resolve("src/test/java"))) {
      files.map(file -> file.getFileName().toString().replace(".java", "")).filter(name -> name.endsWith("Test")).forEach(present::add);
    }
    hold(told.equals(present), "tells of the tests " + told + ", there are " + present);
    hold(Files.isExecutable(root.resolve(".ci/run")) && readme.contains("    .ci/run\n"), "how the tests are run");
  }

  public static void main(String[] args) throws IOException {
    Path source = Path.of(args.length > 0 ? args[0] : "src/main/java/RisingPage.java").toAbsolutePath().normalize();
    Path root = source.getParent().getParent().getParent().getParent();
    String readme = Files.readString(root.resolve("README.md"));
    checkExamples(readme);
    checkCalls(readme);
    checkTests(root, readme);
    System.out.println("readme: " + examples + " examples, " + wrong + " things are not as it says");
    if (wrong != 0) System.exit(1);
  }
}
