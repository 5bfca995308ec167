import java.lang.reflect.Method;
import java.lang.reflect.Modifier;
import java.nio.file.Files;
import java.nio.file.Path;
import java.util.Arrays;
import java.util.regex.Matcher;
import java.util.regex.Pattern;

/** What README.md shows holds: each call of its example answers as told, and no call is left out. */
public final class ReadmeTest {
  private static final Pattern SHOWN = Pattern.compile("x\\.(\\w+)\\(([^)]*)\\);\\s*// (-?\\d+)\\b.*");

  private static int wrong = 0;
  private static int shown = 0;

  private static void due(boolean holds, String what) {
    if (!holds) {
      wrong++;
      System.out.println("README.md: " + what);
    }
  }

  private static Object[] numbers(String arguments) {
    if (arguments.isEmpty()) {
      return new Object[0];
    }
    return Arrays.stream(arguments.split(", "))
        .map(one -> one.equals("SpanColours.NONE") ? SpanColours.NONE : Integer.parseInt(one))
        .toArray();
  }

  private static void example(String page) throws Exception {
    String code = page.substring(page.indexOf("```java") + 7);
    SpanColours x = new SpanColours();
    for (String line : code.substring(0, code.indexOf("```")).split("\n")) {
      if (line.startsWith("x.")) {
        Matcher call = SHOWN.matcher(line);
        due(call.matches(), "no answer is told in: " + line);
        if (call.matches()) {
          answer(x, call.group(1), numbers(call.group(2)), Long.parseLong(call.group(3)));
        }
      }
    }
    due(shown >= 10, "the example has only " + shown + " calls");
  }

  private static void answer(SpanColours x, String name, Object[] arguments, long told)
      throws Exception {
    Class<?>[] types = new Class<?>[arguments.length];
    Arrays.fill(types, int.class);
    long got = ((Number) SpanColours.class.getMethod(name, types).invoke(x, arguments)).longValue();
    due(got == told, name + Arrays.toString(arguments) + " is told as " + told + ", but is " + got);
    shown++;
  }

  private static void everyCall(String page) {
    for (Method m : SpanColours.class.getDeclaredMethods()) {
      if (Modifier.isPublic(m.getModifiers())) {
        due(page.contains("`" + m.getName() + "`"), m.getName() + " is not named");
      }
    }
  }

  public static void main(String[] args) throws Exception {
    String page = Files.readString(Path.of("README.md"));
    example(page);
    everyCall(page);
    System.out.println(shown + " calls shown in README.md, " + wrong + " not as due");
    if (wrong != 0) {
      System.exit(1);
    }
  }
}
