import java.nio.file.Files;
import java.nio.file.Path;
import java.util.HashMap;
import java.util.Map;
import java.util.TreeSet;
import java.util.regex.Matcher;
import java.util.regex.Pattern;

/** The examples of README.md: behind each call stands the answer that it gives. */
public final class ReadmeTest {
  private static final Pattern CALL = Pattern.compile("x\\.(\\w+)\\(([-0-9, ]*)\\); *// (-?[0-9]+|[A-Z]+)(:.*)?");
  private static final Pattern SAID = Pattern.compile("say\\(x, \"([^\"]*)\"\\); *// (-?[0-9]+|[A-Z]+)(:.*)?");
  private static final Map<String, java.lang.reflect.Method> FACE = new HashMap<>();
  private static int asked = 0, wrong = 0;

  public static void main(String[] args) throws Exception {
    for (java.lang.reflect.Method m : UnderWhitewash.class.getDeclaredMethods())
      if (java.lang.reflect.Modifier.isPublic(m.getModifiers())) FACE.put(m.getName(), m);
    String readme = Files.readString(Path.of("README.md"));
    everyCallIsTold(readme);
    examples(readme);
    if (asked < 40) { wrong++; System.out.println("only " + asked + " examples were found"); }
    System.out.println(asked + " examples run, " + wrong + " wrong");
    if (wrong != 0) System.exit(1);
  }

  private static void everyCallIsTold(String readme) {
    for (String name : new TreeSet<>(FACE.keySet()))
      if (!readme.contains("`" + name + "`")) { wrong++; System.out.println("README.md does not tell of " + name); }
  }

  private static void examples(String readme) throws Exception {
    UnderWhitewash x = null;
    boolean inside = false;
    for (String line : readme.split("\n")) {
      if (line.startsWith("```")) { inside = line.equals("```java"); x = null; }
      else if (line.contains("new UnderWhitewash()")) x = new UnderWhitewash();
      else if (inside && x != null) example(x, line);
    }
  }

  private static void example(UnderWhitewash x, String line) throws Exception {
    Matcher call = CALL.matcher(line), said = SAID.matcher(line);
    if (call.matches()) answers(line, (Integer) FACE.get(call.group(1)).invoke(x, numbers(call.group(2))), call.group(3));
    else if (said.matches()) answers(line, Edges.say(x, said.group(1)), said.group(2));
    else { wrong++; System.out.println("no example with an answer: " + line); }
  }

  private static void answers(String line, int got, String told) throws Exception {
    asked++;
    int want = Character.isLetter(told.charAt(0)) ? UnderWhitewash.class.getField(told).getInt(null) : Integer.parseInt(told);
    if (got != want) { wrong++; System.out.println(line + " -- answered " + got); }
  }

  private static Object[] numbers(String list) {
    if (list.isBlank()) return new Object[0];
    String[] parts = list.split(",");
    Object[] all = new Object[parts.length];
    for (int k = 0; k < parts.length; k++) all[k] = Integer.parseInt(parts[k].trim());
    return all;
  }
}
