import java.io.IOException;
import java.lang.reflect.Method;
import java.nio.file.Files;
import java.nio.file.Path;
import java.util.List;
import java.util.regex.Matcher;
import java.util.regex.Pattern;
import java.util.stream.Stream;

/** What README.md shows of the class has to be so, and its table has to name every test. */
public final class ReadmeTest {
  private static final Pattern CALL = Pattern.compile("^school\\.(\\w+)\\((.*)\\);\\s*// (-?\\d+)(:.*)?$");
  private static final Pattern TABLE_LINE = Pattern.compile("^\\| (.*?) \\|.*$", Pattern.MULTILINE);

  public static void main(String[] args) throws Exception {
    String readme = Files.readString(Path.of("README.md"));
    theExampleAnswersAsItSays(readme);
    theTableHasEveryTest(readme);
    Check.that("says how the tests are run", readme.contains("`.ci/run`"));
    Check.finish();
  }

  private static void theExampleAnswersAsItSays(String readme) throws Exception {
    NationSchool school = new NationSchool();
    String example = readme.substring(readme.indexOf("```java") + 7);
    example = example.substring(0, example.indexOf("```"));
    int calls = 0;
    for (String line : example.strip().lines().toList()) {
      if (line.startsWith("school.")) {
        Matcher call = CALL.matcher(line);
        Check.that("is a call with its answer: " + line, call.matches());
        Check.due(line, answer(school, call.group(1), call.group(2)), Integer.parseInt(call.group(3)));
        calls++;
      }
    }
    Check.that("the example has calls", calls > 0);
  }

  private static int answer(NationSchool school, String name, String arguments) throws Exception {
    List<String> with = arguments.isEmpty() ? List.of() : List.of(arguments.split(", "));
    for (Method method : NationSchool.class.getMethods()) {
      if (method.getName().equals(name) && method.getParameterCount() == with.size()) {
        return (Integer) method.invoke(school, with.stream().map(ReadmeTest::value).toArray());
      }
    }
    throw new NoSuchMethodException(name);
  }

  private static Object value(String written) {
    return switch (written) {
      case "true", "false" -> Boolean.valueOf(written);
      case "NationSchool.NONE" -> NationSchool.NONE;
      default -> Integer.decode(written);
    };
  }

  private static void theTableHasEveryTest(String readme) throws IOException {
    StringBuilder named = new StringBuilder();
    for (Matcher line = TABLE_LINE.matcher(readme); line.find();) {
      named.append(' ').append(line.group(1)).append(' ');
    }
    try (Stream<Path> files = Files.list(Path.of("src/test/java"))) {
      for (Path file : files.filter(f -> f.toString().endsWith("Test.java")).toList()) {
        String name = file.getFileName().toString().replace(".java", "");
        Check.that("README.md names " + name, named.toString().matches(".*\\b" + name + "\\b.*"));
      }
    }
  }
}
