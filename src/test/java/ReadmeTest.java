import java.io.IOException;
import java.lang.reflect.InvocationTargetException;
import java.lang.reflect.Method;
import java.lang.reflect.Modifier;
import java.nio.file.Files;
import java.nio.file.Path;
import java.util.ArrayList;
import java.util.List;
import java.util.Set;
import java.util.TreeSet;
import java.util.regex.Matcher;
import java.util.regex.Pattern;

/** README.md tells the truth: its example answers what stands there, and no call is left out. */
final class ReadmeTest {
  private static final Pattern CALL =
      Pattern.compile("x\\.(\\w+)\\(([^)]*)\\);\\s*//\\s*([^:]*)(:.*)?");
  private static final Pattern TABLE_ROW = Pattern.compile("\\| `(\\w+)\\(([^)]*)\\)` \\|.*");
  private static final Pattern EXCEPTION = Pattern.compile("`(\\w+Exception)`");

  public static void main(String[] args) throws IOException {
    List<String> readme = Files.readAllLines(Path.of("README.md"));
    theExampleAnswersSo(readme);
    theTableHasTheFace(readme);
    Check.close();
  }

  private static void theExampleAnswersSo(List<String> readme) {
    TeleStack x = new TeleStack();
    Set<String> used = new TreeSet<>();
    for (String line : exampleOf(readme)) {
      Matcher call = CALL.matcher(line);
      if (call.matches()) {
        used.add(call.group(1));
        makeCall(x, call);
      } else if (!line.isBlank() && !line.startsWith("//")) {
        Check.due(line, line.equals("TeleStack x = new TeleStack();"), true);
      }
    }
    Check.due("the example makes calls", used.size() > 10, true);
  }

  private static List<String> exampleOf(List<String> readme) {
    int from = readme.indexOf("```java");
    List<String> rest = readme.subList(from + 1, readme.size());
    return rest.subList(0, rest.indexOf("```"));
  }

  private static void makeCall(TeleStack x, Matcher call) {
    Method m = faceMethod(call.group(1));
    if (m == null) {
      Check.complain(call.group() + " is no call of the face");
      return;
    }
    String want = m.getReturnType() == void.class ? "null" : call.group(3).trim();
    String got = outcome(x, m, argumentsOf(call.group(2)));
    Check.due(call.group() + " answered " + got, got.equals(want), true);
  }

  private static Object[] argumentsOf(String text) {
    List<Object> arguments = new ArrayList<>();
    for (String part : text.split(",")) {
      String word = part.trim();
      if (word.equals("true") || word.equals("false")) {
        arguments.add(Boolean.valueOf(word));
      } else if (!word.isEmpty()) {
        arguments.add(Integer.valueOf(word));
      }
    }
    return arguments.toArray();
  }

  private static String outcome(TeleStack x, Method m, Object[] arguments) {
    try {
      return String.valueOf(m.invoke(x, arguments));
    } catch (InvocationTargetException e) {
      return String.valueOf(e.getCause());
    } catch (IllegalAccessException | IllegalArgumentException e) {
      return String.valueOf(e);
    }
  }

  private static void theTableHasTheFace(List<String> readme) {
    Set<String> told = new TreeSet<>();
    for (String line : readme) {
      Matcher row = TABLE_ROW.matcher(line);
      if (row.matches()) {
        told.add(row.group(1));
        tellsTheCall(row, faceMethod(row.group(1)));
      }
    }
    for (Method m : TeleStack.class.getDeclaredMethods()) {
      if (Modifier.isPublic(m.getModifiers())) {
        Check.due("README.md tells " + m.getName(), told.contains(m.getName()), true);
      }
    }
  }

  private static void tellsTheCall(Matcher row, Method m) {
    if (m == null) {
      Check.complain(row.group() + " is no call of the face");
      return;
    }
    String arguments = row.group(2);
    int many = arguments.isEmpty() ? 0 : arguments.split(",").length;
    Check.due("arguments of " + row.group(1), many, m.getParameterCount());
    List<String> due = new ArrayList<>();
    for (Class<?> thrown : m.getExceptionTypes()) {
      due.add(thrown.getSimpleName());
    }
    List<String> told = new ArrayList<>();
    for (Matcher e = EXCEPTION.matcher(row.group()); e.find(); ) {
      told.add(e.group(1));
    }
    Check.due(row.group(1) + " throws " + due + ", told is " + told, told.equals(due), true);
  }

  private static Method faceMethod(String name) {
    for (Method m : TeleStack.class.getDeclaredMethods()) {
      if (Modifier.isPublic(m.getModifiers()) && m.getName().equals(name)) {
        return m;
      }
    }
    return null;
  }
}
