import java.io.File;
import java.io.IOException;
import java.lang.reflect.InvocationTargetException;
import java.lang.reflect.Method;
import java.nio.file.Files;
import java.nio.file.Path;
import java.util.regex.Matcher;
import java.util.regex.Pattern;

/** README.md: the calls of its run answer what stands behind them, and it names every test. */
public final class ReadmeTest {
  private static final Pattern CALL =
      Pattern.compile("wills\\.(\\w+)\\((.*)\\);\\s+// (-?\\d+)(:.*)?");

  public static void main(String[] args) throws IOException {
    String readme = Files.readString(Path.of("README.md"));
    run(readme);
    tests(readme);
    Due.end("ReadmeTest");
  }

  private static void run(String readme) {
    int start = readme.indexOf("```java\n");
    int end = readme.indexOf("```\n", start + 1);
    Due.due("README.md has a run", start >= 0 && end > start ? 1 : 0, 1);
    String[] lines = readme.substring(start, end).split("\n");
    Due.due("it makes an object", lines[1].equals("FrostWills wills = new FrostWills();") ? 1 : 0, 1);
    FrostWills wills = new FrostWills();
    for (int i = 2; i < lines.length; i++) {
      Matcher m = CALL.matcher(lines[i]);
      Due.due("a call with its answer: " + lines[i], m.matches() ? 1 : 0, 1);
      if (m.matches()) {
        Due.due(lines[i], call(wills, m.group(1), m.group(2)), Long.parseLong(m.group(3)));
      }
    }
  }

  private static long call(FrostWills wills, String name, String told) {
    String[] numbers = told.isEmpty() ? new String[0] : told.split(", ");
    for (Method method : FrostWills.class.getMethods()) {
      if (method.getName().equals(name)) {
        return call(wills, method, numbers);
      }
    }
    throw new IllegalStateException("no call " + name);
  }

  private static long call(FrostWills wills, Method method, String[] numbers) {
    Object[] values = new Object[numbers.length];
    for (int i = 0; i < numbers.length; i++) {
      boolean wide = method.getParameterTypes()[i] == long.class;
      values[i] = wide ? (Object) Long.decode(numbers[i].replace("L", "")) : Integer.decode(numbers[i]);
    }
    try {
      return (Integer) method.invoke(wills, values);
    } catch (IllegalAccessException | InvocationTargetException e) {
      throw new IllegalStateException(method.getName(), e);
    }
  }

  private static void tests(String readme) {
    File[] files = new File("src/test/java").listFiles();
    Due.due("the tests are here", files == null ? 0 : 1, 1);
    for (File file : files == null ? new File[0] : files) {
      String name = file.getName().replace(".java", "");
      if (name.endsWith("Test")) {
        Due.due("README.md names " + name, readme.contains("| " + name + " |") ? 1 : 0, 1);
      }
    }
    Due.due("README.md names the command", readme.contains("\n    .ci/run\n") ? 1 : 0, 1);
  }
}
