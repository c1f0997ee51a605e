import java.io.IOException;
import java.lang.reflect.Method;
import java.nio.file.Files;
import java.nio.file.Path;
import java.util.Set;
import java.util.TreeSet;
import java.util.regex.Matcher;
import java.util.regex.Pattern;

/** Makes the calls that README.md shows, one after the other: each answers what stands behind it. */
public final class ReadmeTests {
  private static final Pattern SHOWN =
      Pattern.compile("bench\\.(\\w+)\\(([^)]*)\\); +// ([-\\w.]+)(:.*)?");
  private static final Check check = new Check("ReadmeTests");

  public static void main(String[] args) throws IOException {
    TestkitchenBench bench = new TestkitchenBench();
    Set<String> shown = new TreeSet<>();
    for (String line : Files.readAllLines(Path.of("README.md"))) {
      if (line.startsWith("bench.")) {
        Matcher call = SHOWN.matcher(line);
        boolean told = call.matches();
        check.due(line + " tells what it answers", true, () -> told);
        if (told) {
          shown.add(call.group(1));
          String answer = answer(bench, call.group(1), call.group(2));
          check.due(line, call.group(3), () -> answer);
        }
      }
    }
    Set<String> face = new TreeSet<>();
    for (Method method : TestkitchenBench.class.getMethods()) {
      if (method.getDeclaringClass() == TestkitchenBench.class) {
        face.add(method.getName());
      }
    }
    check.due("README.md shows each call", face, () -> shown);
    check.end();
  }

  private static String answer(TestkitchenBench bench, String name, String written) {
    Object[] numbers = numbersOf(written);
    for (Method method : TestkitchenBench.class.getMethods()) {
      if (method.getName().equals(name) && method.getParameterCount() == numbers.length) {
        try {
          return String.valueOf(method.invoke(bench, numbers));
        } catch (ReflectiveOperationException | IllegalArgumentException e) {
          return String.valueOf(e.getCause() == null ? e : e.getCause());
        }
      }
    }
    return "no such call";
  }

  private static Object[] numbersOf(String written) {
    if (written.isEmpty()) {
      return new Object[0];
    }
    String[] words = written.split(", *");
    Object[] numbers = new Object[words.length];
    for (int i = 0; i < words.length; i++) {
      boolean truth = words[i].equals("true") || words[i].equals("false");
      numbers[i] = truth ? (Object) Boolean.valueOf(words[i]) : (Object) Integer.valueOf(words[i]);
    }
    return numbers;
  }
}
