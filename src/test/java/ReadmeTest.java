import java.io.IOException;
import java.lang.reflect.Method;
import java.lang.reflect.Modifier;
import java.nio.file.Files;
import java.nio.file.Path;
import java.util.HashMap;
import java.util.Map;
import java.util.regex.Matcher;
import java.util.regex.Pattern;

/** README.md tells each call with its arguments, and its example answers what stands beside it. */
public final class ReadmeTest {
  private static final Pattern ASKED = Pattern.compile("(?m)^x\\.(\\w+)\\(([^)]*)\\); +// (-?\\d+)");
  private static final Pattern TOLD = Pattern.compile("(?m)^\\| `(\\w+)\\(([^)]*)\\)` \\|");

  private static int wrong = 0;

  public static void main(String[] args) throws IOException, ReflectiveOperationException {
    String readme = Files.readString(Path.of("README.md"));
    Map<String, Method> face = new HashMap<>();
    for (Method m : WhiteRivers.class.getDeclaredMethods()) {
      if (Modifier.isPublic(m.getModifiers())) face.put(m.getName(), m);
    }
    askExample(readme, face);
    lookForCalls(readme, face);
    System.out.println(wrong == 0 ? "readme: all calls are told" : "readme: " + wrong + " faults");
    if (wrong != 0) System.exit(1);
  }

  private static void due(String what, Object got, Object want) {
    if (got.equals(want)) return;
    wrong++;
    System.out.println(what + " is " + got + ", due is " + want);
  }

  private static void askExample(String readme, Map<String, Method> face) throws ReflectiveOperationException {
    WhiteRivers x = new WhiteRivers();
    Matcher asked = ASKED.matcher(readme);
    int calls = 0;
    for (; asked.find(); calls++) {
      Object[] arguments = Pattern.compile(",").splitAsStream(asked.group(2))
          .map(String::trim).filter(a -> !a.isEmpty()).map(Integer::valueOf).toArray();
      Object got = face.get(asked.group(1)).invoke(x, arguments);
      due("the example's " + asked.group(1) + "(" + asked.group(2) + ")", got, Integer.valueOf(asked.group(3)));
    }
    due("that the example has calls", calls > 0, true);
  }

  private static void lookForCalls(String readme, Map<String, Method> face) {
    Map<String, Integer> told = new HashMap<>();
    Matcher call = TOLD.matcher(readme);
    while (call.find()) told.put(call.group(1), call.group(2).isEmpty() ? 0 : call.group(2).split(",").length);
    Map<String, Integer> want = new HashMap<>();
    for (Method m : face.values()) want.put(m.getName(), m.getParameterCount());
    due("what the tables tell", told, want);
  }
}
