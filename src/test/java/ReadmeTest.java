import java.io.IOException;
import java.lang.reflect.Method;
import java.lang.reflect.Modifier;
import java.nio.file.Files;
import java.nio.file.Path;
import java.util.regex.Matcher;
import java.util.regex.Pattern;

/** The calls that README.md shows, run as they stand there; each has its answer behind it. */
public final class ReadmeTest {
  private static final Checks CHECKS = new Checks();
  private static final Pattern CALL = Pattern.compile("x\\.(\\w+)\\((.*?)\\);\\s*// (-?\\d+)\\b.*");

  public static void main(String[] args) throws IOException, ReflectiveOperationException {
    String readme = Files.readString(Path.of("README.md"));
    callsAnswer(readme);
    callsAreListed(readme);
    CHECKS.end();
  }

  private static void callsAnswer(String readme) throws ReflectiveOperationException {
    LinkModels x = new LinkModels();
    int shown = 0;
    for (String line : readme.split("\n")) {
      if (line.startsWith("x.")) {
        Matcher m = CALL.matcher(line);
        CHECKS.due("can be read: " + line, m.matches() ? 1 : 0, 1);
        CHECKS.due(line, answer(x, m.group(1), m.group(2)), Long.parseLong(m.group(3)));
        shown++;
      }
    }
    CHECKS.due("calls are shown", shown > 0 ? 1 : 0, 1);
  }

  private static int answer(LinkModels x, String call, String told) throws ReflectiveOperationException {
    for (Method m : LinkModels.class.getMethods()) {
      if (m.getName().equals(call) && m.getReturnType() == int.class) {
        return (Integer) m.invoke(x, values(m, told));
      }
    }
    throw new IllegalStateException("no such call: " + call);
  }

  private static Object[] values(Method m, String told) {
    String[] parts = told.isEmpty() ? new String[0] : told.split(", ");
    Object[] values = new Object[parts.length];
    for (int i = 0; i < parts.length; i++) {
      String part = parts[i];
      long value = part.startsWith("'") ? part.charAt(1) : Long.decode(part.replace("L", ""));
      if (m.getParameterTypes()[i] == int.class) {
        values[i] = (int) value;
      } else {
        values[i] = value;
      }
    }
    return values;
  }

  private static void callsAreListed(String readme) {
    for (Method m : LinkModels.class.getDeclaredMethods()) {
      if (Modifier.isPublic(m.getModifiers())) {
        CHECKS.due("listed: " + m.getName(), readme.contains("| `" + m.getName() + "(") ? 1 : 0, 1);
      }
    }
  }
}
