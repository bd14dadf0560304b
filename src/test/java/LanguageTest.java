import java.io.IOException;
import java.lang.reflect.Constructor;
import java.lang.reflect.Field;
import java.lang.reflect.Method;
import java.lang.reflect.Modifier;
import java.nio.file.Files;
import java.nio.file.Path;
import java.util.Arrays;
import java.util.Set;
import java.util.TreeSet;
import java.util.regex.Pattern;
import java.util.stream.Collectors;

/** The rules of LANGUAGE.md that can be seen from outside: the face, and words that are ruled out. */
final class LanguageTest {
  private static final String[] FACE = {
    "void tune(int,int,int) IllegalStateException IllegalArgumentException",
    "void number(int) IllegalStateException IllegalArgumentException",
    "void begin(int) IllegalStateException IllegalArgumentException",
    "void end() IllegalStateException",
    "boolean command(int) IllegalStateException",
    "int tick()",
    "void raise(int) IndexOutOfBoundsException",
    "void drop(int) IndexOutOfBoundsException",
    "int take() NoSuchElementException",
    "boolean report()",
    "void answer(int,boolean) IndexOutOfBoundsException",
    "boolean packet(int,int,int) IllegalArgumentException",
    "int frame(int,boolean) IllegalArgumentException",
    "int ground(int) IndexOutOfBoundsException",
    "int craft(int) IndexOutOfBoundsException",
    "int flight(int,int) IndexOutOfBoundsException",
    "int packets()",
    "int got(int,int) NoSuchElementException"
  };

  private static final String[] RULED_OUT = {
    "->", "::", "try", "finally", "synchronized", "assert", "Exact(", "nanoTime",
    "currentTimeMillis", "random", "toString", "hashCode", "protected"
  };

  public static void main(String[] args) throws IOException {
    theFaceIsTheDocuments();
    nothingElseIsSeen();
    classesInsideAreStatic();
    wordsRuledOut();
    Check.close();
  }

  private static void theFaceIsTheDocuments() {
    Set<String> seen = new TreeSet<>();
    for (Method m : TeleStack.class.getDeclaredMethods()) {
      if (Modifier.isPublic(m.getModifiers())) {
        seen.add(faceOf(m));
      }
    }
    Set<String> due = new TreeSet<>(Arrays.asList(FACE));
    Check.due("the face " + seen + " is the document's", seen.equals(due), true);
    Check.due("public", Modifier.isPublic(TeleStack.class.getModifiers()), true);
    Check.due("final", Modifier.isFinal(TeleStack.class.getModifiers()), true);
  }

  private static String faceOf(Method m) {
    String arguments =
        Arrays.stream(m.getParameterTypes()).map(Class::getName).collect(Collectors.joining(","));
    StringBuilder text = new StringBuilder();
    text.append(m.getReturnType()).append(' ').append(m.getName());
    text.append('(').append(arguments).append(')');
    for (Class<?> thrown : m.getExceptionTypes()) {
      text.append(' ').append(thrown.getSimpleName());
    }
    return text.toString();
  }

  private static void nothingElseIsSeen() {
    Set<String> names = new TreeSet<>();
    for (Method m : TeleStack.class.getMethods()) {
      names.add(m.getName());
    }
    for (Method m : TeleStack.class.getDeclaredMethods()) {
      if (!Modifier.isPublic(m.getModifiers())) {
        Check.due(m + " is private", Modifier.isPrivate(m.getModifiers()), true);
        Check.due(m + " bears a public name", names.contains(m.getName()), false);
      }
    }
    for (Field f : TeleStack.class.getDeclaredFields()) {
      Check.due(f + " is private", Modifier.isPrivate(f.getModifiers()), true);
    }
    Constructor<?>[] constructors = TeleStack.class.getDeclaredConstructors();
    Check.due("constructors", constructors.length, 1);
    Check.due("arguments of it", constructors[0].getParameterCount(), 0);
  }

  private static void classesInsideAreStatic() {
    Class<?>[] inside = TeleStack.class.getDeclaredClasses();
    Check.due("twelve classes at most", inside.length <= 11, true);
    for (Class<?> c : inside) {
      Check.due(c + " is static", Modifier.isStatic(c.getModifiers()), true);
      Check.due(c + " is private", Modifier.isPrivate(c.getModifiers()), true);
      for (Field f : c.getDeclaredFields()) {
        boolean isFinal = Modifier.isFinal(f.getModifiers());
        Check.due(f + " is no static state", !Modifier.isStatic(f.getModifiers()) || isFinal, true);
      }
    }
  }

  private static void wordsRuledOut() throws IOException {
    for (String line : Files.readAllLines(Path.of("src/main/java/TeleStack.java"))) {
      String code = line.replaceAll("^\\s*(//|/?\\*).*", "");
      for (String word : RULED_OUT) {
        Check.due("'" + word + "' in " + line, names(code, word), false);
      }
      if (code.startsWith("import")) {
        Check.due(code, code.equals("import java.util.NoSuchElementException;"), true);
      }
    }
  }

  private static boolean names(String code, String word) {
    boolean plain = word.chars().allMatch(Character::isLetter);
    return plain
        ? Pattern.compile("\\b" + word + "\\b").matcher(code).find()
        : code.contains(word);
  }
}
