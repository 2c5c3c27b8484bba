import java.lang.reflect.InvocationTargetException;
import java.lang.reflect.Method;
import java.lang.reflect.Modifier;
import java.util.Arrays;
import java.util.Comparator;
import java.util.function.Supplier;

/** What the tests by hand have in common: cases by name, what is due, and columns to ask. */
abstract class Cases {
  static final int INVALID_ARGUMENT = -1;
  static final int NOT_POSSIBLE = -2;
  static final int LIMIT_REACHED = -3;
  static final int NOT_FOUND = -4;

  private static String running = "";
  private static int wrong = 0;

  interface Ask {
    int of(WhiteRivers x);
  }

  interface AskWith {
    int of(WhiteRivers x, int argument);
  }

  /** Runs the cases of a class: its static methods without arguments and answer, but for main. */
  static void runAll(Class<?> tests) {
    Method[] methods = tests.getDeclaredMethods();
    Arrays.sort(methods, Comparator.comparing(Method::getName));
    int cases = 0;
    for (Method m : methods) {
      if (!isCase(m)) continue;
      cases++;
      run(tests.getSimpleName() + "." + m.getName(), m);
    }
    System.out.println(tests.getSimpleName() + ": " + cases + " cases, "
        + (wrong == 0 ? "all answers are as due" : wrong + " answers are not as due"));
    if (wrong != 0 || cases == 0) System.exit(1);
  }

  private static boolean isCase(Method m) {
    return Modifier.isStatic(m.getModifiers()) && !Modifier.isPrivate(m.getModifiers()) && !m.isSynthetic()
        && m.getParameterCount() == 0 && m.getReturnType() == void.class;
  }

  private static void run(String name, Method m) {
    running = name;
    try {
      m.invoke(null);
    } catch (InvocationTargetException e) {
      fail("threw " + e.getCause());
    } catch (IllegalAccessException e) {
      fail("can't be called: " + e);
    }
  }

  private static void fail(String what) {
    wrong++;
    System.out.println(running + ": " + what);
  }

  static void due(String call, int got, int want) {
    if (got != want) fail(call + " answered " + got + ", due is " + want);
  }

  static void dueText(String what, String got, String want) {
    if (!got.equals(want)) fail(what + " is " + got + ", due is " + want);
  }

  static void dueDivision(WhiteRivers x, String want) {
    dueText("the division", division(x), want);
  }

  /** An error is due, and that it changes nothing: not even what can be restored, and the text. */
  static void refused(String call, Supplier<WhiteRivers> made, Ask asked, int want) {
    WhiteRivers x = made.get();
    due(call, asked.of(x), want);
    dueText("what there is after " + call, everything(x), everything(made.get()));
  }

  /** What is due at both ends of an argument's range, and INVALID_ARGUMENT next to them and far away. */
  static void range(String call, Supplier<WhiteRivers> made, AskWith asked, int least, int dueAtLeast,
      int most, int dueAtMost) {
    due(call + " of " + least, asked.of(made.get(), least), dueAtLeast);
    due(call + " of " + most, asked.of(made.get(), most), dueAtMost);
    beyond(call, made, asked, least - 1);
    beyond(call, made, asked, Integer.MIN_VALUE);
    if (most == Integer.MAX_VALUE) return;
    beyond(call, made, asked, most + 1);
    beyond(call, made, asked, Integer.MAX_VALUE);
  }

  private static void beyond(String call, Supplier<WhiteRivers> made, AskWith asked, int argument) {
    refused(call + " of " + argument, made, x -> asked.of(x, argument), INVALID_ARGUMENT);
  }

  /** A column with just these lines, told by the lengths of their words; a star freezes a line. */
  static WhiteRivers lines(int width, String... lines) {
    WhiteRivers x = new WhiteRivers();
    x.setWidth(width);
    for (int line = 0; line < lines.length; line++) {
      for (String length : lines[line].replace("*", "").split(" ")) x.add(Integer.parseInt(length));
      // The next word begins a line of its own behind a frozen one.
      x.freeze(line, 1);
    }
    for (int line = 0; line < lines.length; line++) {
      if (!lines[line].startsWith("*")) x.freeze(line, 0);
    }
    due("count(1) of the column " + String.join(" | ", lines), x.count(1), lines.length);
    return x;
  }

  /** The same column, with another slack. */
  static WhiteRivers slack(int slack, WhiteRivers x) {
    x.setSlack(slack);
    return x;
  }

  static WhiteRivers typed(WhiteRivers x, String text) {
    for (int i = 0; i < text.length(); i++) x.type(text.charAt(i));
    return x;
  }

  static WhiteRivers text(String text) {
    return typed(new WhiteRivers(), text);
  }

  /** Words of one character, with one blank between two of them. */
  static String shortWords(int words) {
    return "a ".repeat(words).trim();
  }

  static String words(WhiteRivers x) {
    StringBuilder s = new StringBuilder();
    int words = x.count(0);
    for (int word = 0; word < words; word++) s.append(x.word(word, 0));
    return s.toString();
  }

  /** The number of words of each line, with a star behind a frozen one. */
  static String division(WhiteRivers x) {
    StringBuilder s = new StringBuilder();
    int lines = x.count(1);
    for (int line = 0; line < lines; line++) {
      s.append('|').append(x.line(line, 1)).append(x.line(line, 5) == 1 ? "*" : "");
    }
    return s.toString();
  }

  static String planned(WhiteRivers x, int length) {
    StringBuilder s = new StringBuilder();
    for (int line = 0; line < 25 && x.planned(length, line) >= 0; line++) s.append('|').append(x.planned(length, line));
    return s.toString();
  }

  /** What stands in the columns of a line: words by letters, the first one of all by a, and dots. */
  static String drawn(WhiteRivers x, int line) {
    StringBuilder s = new StringBuilder();
    int width = x.count(2);
    for (int column = 0; column < width; column++) {
      int word = x.at(line, column);
      s.append(word >= 0 ? (char) ('a' + word) : '.');
    }
    return s.toString();
  }

  static String state(WhiteRivers x) {
    StringBuilder s = new StringBuilder();
    for (int what = 0; what <= 11; what++) s.append(x.count(what)).append(' ');
    return s.append(words(x)).append(division(x)).append(' ').append(x.fault()).toString();
  }

  /** The state, each state that can be restored, and the words of the text; the object is spent then. */
  private static String everything(WhiteRivers x) {
    StringBuilder s = new StringBuilder(state(x));
    for (int undone = 0; undone < 6 && x.undo() >= 0; undone++) s.append('\n').append(state(x));
    return s.append('\n').append(x.read()).append(' ').append(words(x)).toString();
  }
}
