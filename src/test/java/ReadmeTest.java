import java.io.IOException;
import java.lang.reflect.Method;
import java.nio.file.DirectoryStream;
import java.nio.file.Files;
import java.nio.file.Path;
import java.util.Set;
import java.util.TreeSet;
import java.util.regex.Matcher;
import java.util.regex.Pattern;

/** README.md tells a run of calls: each answers as it is told there. */
public final class ReadmeTest {
  private static final Pattern CALL = Pattern.compile("bench\\.(\\w+)\\(([-0-9, ]*)\\);\\s*// (-?\\d+):.*");
  private static final Due due = new Due();

  public static void main(String[] args) throws Exception {
    String readme = Files.readString(Path.of("README.md"));
    answers(readme);
    tests(readme);
    due.end();
  }

  private static void answers(String readme) throws Exception {
    Matcher block = Pattern.compile("(?s)```java\n(.*?)```").matcher(readme);
    due.isTrue("there is a run of calls", block.find());
    String[] lines = block.group(1).split("\n");
    due.isTrue("it begins with a new object", lines[0].equals("HoldBench bench = new HoldBench();"));
    HoldBench bench = new HoldBench();
    Set<String> used = new TreeSet<>();
    for (int i = 1; i < lines.length; i++) {
      Matcher call = CALL.matcher(lines[i]);
      boolean told = call.matches();
      due.isTrue("a call with its answer: " + lines[i], told);
      if (told) {
        due.is(lines[i], answer(bench, call.group(1), call.group(2)), Integer.parseInt(call.group(3)));
        used.add(call.group(1));
      }
    }
    due.is("each call of the face is shown: " + used, used.size(), 10);
    due.isTrue("there is no second run of calls", !block.find());
  }

  private static int answer(HoldBench bench, String name, String numbers) throws Exception {
    String[] texts = numbers.isBlank() ? new String[0] : numbers.split(", ");
    Class<?>[] types = new Class<?>[texts.length];
    Object[] values = new Object[texts.length];
    for (int i = 0; i < texts.length; i++) {
      types[i] = int.class;
      values[i] = Integer.valueOf(texts[i]);
    }
    Method method = HoldBench.class.getMethod(name, types);
    return (Integer) method.invoke(bench, values);
  }

  private static void tests(String readme) throws IOException {
    due.isTrue("it says how the tests are run", readme.contains("\n    .ci/run\n"));
    try (DirectoryStream<Path> files = Files.newDirectoryStream(Path.of("src/test/java"), "*Test.java")) {
      for (Path file : files) {
        String name = file.getFileName().toString().replace(".java", "");
        due.isTrue("it names " + name, readme.contains("`" + name + "`"));
      }
    }
  }
}
