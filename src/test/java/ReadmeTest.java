import java.io.IOException;
import java.lang.reflect.InvocationTargetException;
import java.lang.reflect.Method;
import java.lang.reflect.Modifier;
import java.nio.charset.StandardCharsets;
import java.nio.file.Files;
import java.nio.file.Path;
import java.util.HashMap;
import java.util.List;
import java.util.Map;
import java.util.Set;
import java.util.TreeSet;
import java.util.regex.Matcher;
import java.util.regex.Pattern;

/** README.md's example is run line by line, and its table of calls is compared with the class. */
public final class ReadmeTest {
  private static final Pattern LINE =
      Pattern.compile(" {4}(?:int (\\w+) = )?yard\\.(\\w+)\\(([^)]*)\\); +// ([-\\w]+)(?:: .*)?");
  private static final Pattern ROW_CALL = Pattern.compile("`(\\w+)\\(([^)]*)\\)`");

  private final Warpyard yard = new Warpyard();
  private final Map<String, Object> named = new HashMap<>();

  private ReadmeTest() {
  }

  public static void main(String[] args) throws IOException {
    List<String> lines = Files.readAllLines(Path.of("README.md"), StandardCharsets.UTF_8);
    new ReadmeTest().example(lines);
    table(lines);
    Check.end("ReadmeTest");
  }

  private void example(List<String> lines) {
    int calls = 0;
    for (String line : lines) {
      if (line.startsWith("    ") && line.contains("yard.")) {
        calls++;
        Matcher parts = LINE.matcher(line);
        Check.is("a call and its answer: " + line, true, () -> parts.matches());
        if (parts.matches()) {
          answers(line, parts);
        }
      }
    }
    int found = calls;
    Check.is("the example has calls", true, () -> found > 0);
  }

  private void answers(String line, Matcher parts) {
    Object got = call(parts.group(2), parts.group(3));
    if (parts.group(1) != null) {
      named.put(parts.group(1), got);
    }
    Check.is(line.trim(), parts.group(4), () -> String.valueOf(got));
  }

  private Object call(String name, String arguments) {
    for (Method method : Warpyard.class.getMethods()) {
      if (method.getDeclaringClass() == Warpyard.class && method.getName().equals(name)) {
        return outcome(method, values(arguments));
      }
    }
    return "no such call";
  }

  private Object[] values(String arguments) {
    if (arguments.isEmpty()) {
      return new Object[0];
    }
    String[] words = arguments.split(", ");
    Object[] values = new Object[words.length];
    for (int i = 0; i < words.length; i++) {
      values[i] = value(words[i]);
    }
    return values;
  }

  private Object value(String word) {
    if (named.containsKey(word)) {
      return named.get(word);
    }
    if (word.equals("true") || word.equals("false")) {
      return Boolean.valueOf(word);
    }
    return Integer.valueOf(word);
  }

  private Object outcome(Method method, Object[] values) {
    try {
      Object answer = method.invoke(yard, values);
      return method.getReturnType() == void.class ? "nothing" : answer;
    } catch (InvocationTargetException e) {
      return e.getCause().getClass().getSimpleName();
    } catch (IllegalAccessException e) {
      return "no access";
    }
  }

  private static void table(List<String> lines) {
    Set<String> told = new TreeSet<>();
    for (String line : lines) {
      if (line.startsWith("| `")) {
        Matcher call = ROW_CALL.matcher(line.substring(0, line.indexOf(" | ")));
        while (call.find()) {
          told.add(call.group(1) + " of " + (call.group(2).isEmpty() ? 0 : call.group(2).split(", ").length));
        }
      }
    }
    Set<String> there = new TreeSet<>();
    for (Method method : Warpyard.class.getDeclaredMethods()) {
      if (Modifier.isPublic(method.getModifiers())) {
        there.add(method.getName() + " of " + method.getParameterCount());
      }
    }
    Check.is("the table of calls", there, () -> told);
  }
}
