import java.io.IOException;
import java.lang.reflect.Constructor;
import java.lang.reflect.Field;
import java.lang.reflect.Method;
import java.lang.reflect.Modifier;
import java.nio.file.Files;
import java.nio.file.Path;
import java.util.Arrays;
import java.util.Set;
import java.util.TreeSet;
import java.util.regex.Matcher;
import java.util.regex.Pattern;

/** The face of the document, and those rules of LANGUAGE.md that can be seen in the class and its source. */
public final class LanguageTest {
  private static final String SOURCE = "src/main/java/WhiteRivers.java";
  private static final String FACE = "setWidth(int) setSlack(int) add(int) remove() pull(int) push(int) freeze(int,int)"
      + " reflow() count(int) word(int,int) line(int,int) undo() gap(int,int,int) river(int,int) at(int,int)"
      + " plan(int,int) planned(int,int) dam(int) leastRiver() type(int) clearText() fault() read()";
  private static final String CONSTANTS = "INVALID_ARGUMENT NOT_POSSIBLE LIMIT_REACHED NOT_FOUND";
  private static final int MOST_LINES = 60;
  private static final int MOST_FIELDS = 20;
  private static final int MOST_CLASSES = 12;

  private static int wrong = 0;

  public static void main(String[] args) throws IOException {
    String source = withoutComments(Files.readString(Path.of(SOURCE)));
    lookAtFace();
    lookAtClasses();
    lookForWords(source);
    lookAtMethodLengths(source);
    System.out.println(wrong == 0 ? "language: all rules looked at are kept" : "language: " + wrong + " rules are broken");
    if (wrong != 0) System.exit(1);
  }

  private static void rule(int rule, boolean kept, String what) {
    if (kept) return;
    wrong++;
    System.out.println("rule " + rule + ": " + what);
  }

  private static void lookAtFace() {
    Class<?> c = WhiteRivers.class;
    rule(1, Modifier.isPublic(c.getModifiers()) && Modifier.isFinal(c.getModifiers()), "the class is not public and final");
    Set<String> methods = new TreeSet<>();
    for (Method m : c.getDeclaredMethods()) {
      if (m.isSynthetic() || Modifier.isPrivate(m.getModifiers())) continue;
      String parameters = Arrays.toString(m.getParameterTypes()).replaceAll("[\\[\\] ]", "");
      methods.add(m.getName() + "(" + parameters + ")");
      rule(1, m.getModifiers() == Modifier.PUBLIC && m.getReturnType() == int.class, m.toString());
    }
    rule(1, methods.equals(new TreeSet<>(Arrays.asList(FACE.split(" ")))), "the methods are " + methods);
    Set<String> constants = new TreeSet<>();
    for (Field f : c.getDeclaredFields()) {
      if (!Modifier.isPrivate(f.getModifiers())) constants.add(f.getName());
    }
    rule(1, constants.equals(new TreeSet<>(Arrays.asList(CONSTANTS.split(" ")))), "the constants are " + constants);
    Constructor<?>[] constructors = c.getDeclaredConstructors();
    rule(1, constructors.length == 1 && Modifier.isPublic(constructors[0].getModifiers())
        && constructors[0].getParameterCount() == 0, "the constructor");
  }

  private static void lookAtClasses() {
    Class<?>[] inside = WhiteRivers.class.getDeclaredClasses();
    rule(11, inside.length < MOST_CLASSES, "too many classes");
    for (Class<?> c : inside) {
      rule(1, Modifier.isStatic(c.getModifiers()) && !Modifier.isPublic(c.getModifiers()), c.getName());
      int fields = 0;
      for (Field f : c.getDeclaredFields()) {
        boolean isStatic = Modifier.isStatic(f.getModifiers());
        fields += isStatic ? 0 : 1;
        rule(5, !isStatic || Modifier.isFinal(f.getModifiers()), f.toString());
      }
      rule(11, fields <= MOST_FIELDS, c.getName() + " has too many fields");
      for (Method m : c.getDeclaredMethods()) {
        boolean isPrivate = Modifier.isPrivate(m.getModifiers());
        rule(1, !isPrivate || !(" " + FACE).contains(" " + m.getName() + "("), m + " bears the name of a public method");
        rule(11, m.getParameterCount() <= 7, m + " has too many parameters");
      }
    }
  }

  private static void lookForWords(String source) {
    String imports = "import\\s+(?!java\\.util\\.(ArrayList|List|Arrays|Iterator);)";
    rule(4, !Pattern.compile("(?m)^\\s*(package\\b|" + imports + ")").matcher(source).find(), "an import or a package line");
    rule(2, !Pattern.compile("->|::").matcher(source).find(), "a lambda or a method reference");
    Matcher m = Pattern.compile("\\b(throw|throws|try|catch|finally|synchronized|assert)\\b").matcher(source);
    while (m.find()) rule(6, false, m.group());
    m = Pattern.compile("\\bSystem\\.(?!arraycopy\\b)\\w+|\\w+Exact\\b").matcher(source);
    while (m.find()) rule(4, false, m.group());
    m = Pattern.compile("\\b(Thread|Random|Runtime|Scanner|ThreadLocal)\\b|\\brandom\\b").matcher(source);
    while (m.find()) rule(13, false, m.group());
    m = Pattern.compile("while \\(true\\)|for \\(;").matcher(source);
    while (m.find()) rule(9, false, m.group());
  }

  private static void lookAtMethodLengths(String source) {
    String[] lines = source.split("\n");
    for (int i = 0; i < lines.length; i++) {
      Matcher m = Pattern.compile("^( {4,8})(?!.*\\bclass\\b)[^=;]*\\(.*$").matcher(lines[i]);
      if (!m.matches()) continue;
      int end = i;
      while (end < lines.length && !lines[end].equals(m.group(1) + "}")) end++;
      rule(11, end - i < MOST_LINES, "a long method: " + lines[i].trim());
    }
  }

  private static String withoutComments(String source) {
    return source.replaceAll("(?s)/\\*.*?\\*/", "").replaceAll("//[^\n]*", "");
  }
}
