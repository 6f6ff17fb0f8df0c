import java.io.IOException;
import java.lang.reflect.Method;
import java.nio.file.Files;
import java.nio.file.Path;
import java.util.Arrays;
import java.util.regex.Matcher;
import java.util.regex.Pattern;

/** The examples of README.md: a call, and behind // what it answers. */
public final class ReadmeTest {
  private static final Due d = new Due();
  private static final int LEAST = 20;
  private static final Pattern CALL = Pattern.compile("x\\.(\\w+)\\(([^)]*)\\); *// (-?\\d+|[A-Z]+)\\b.*");

  public static void main(String[] args) throws IOException, ReflectiveOperationException {
    HallCoughs x = null;
    boolean example = false;
    int asked = 0;
    for (String line : Files.readAllLines(Path.of("README.md"))) {
      Matcher call = CALL.matcher(line);
      if (line.startsWith("```")) {
        example = line.equals("```java");
      } else if (example && line.equals("HallCoughs x = new HallCoughs();")) {
        x = new HallCoughs();
      } else if (example) {
        d.holds("a call with its answer: " + line, call.matches());
        d.due(line, answer(x, call.group(1), call.group(2)), number(call.group(3)));
        asked++;
      }
    }
    d.holds("there are examples", asked >= LEAST);
    d.end();
  }

  private static int answer(HallCoughs x, String name, String arguments) throws ReflectiveOperationException {
    Object[] all = Arrays.stream(arguments.split(", ?")).filter(a -> !a.isEmpty()).map(Integer::decode).toArray();
    for (Method m : HallCoughs.class.getMethods()) {
      if (m.getName().equals(name) && m.getParameterCount() == all.length) {
        return (Integer) m.invoke(x, all);
      }
    }
    return Integer.MIN_VALUE;
  }

  private static int number(String due) throws ReflectiveOperationException {
    return Character.isLetter(due.charAt(0)) ? HallCoughs.class.getField(due).getInt(null) : Integer.parseInt(due);
  }
}
