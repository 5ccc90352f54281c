import java.lang.reflect.Constructor;
import java.lang.reflect.Field;
import java.lang.reflect.Method;
import java.lang.reflect.Modifier;
import java.nio.file.Files;
import java.nio.file.Path;
import java.util.ArrayList;
import java.util.HashSet;
import java.util.List;
import java.util.Set;
import java.util.TreeSet;
import java.util.regex.Matcher;
import java.util.regex.Pattern;

/** The face of the document, and those rules of LANGUAGE.md that can be seen from the source and the compiled class. */
public final class LanguageTest {
  private static final String FACE = "as ask back becomes behind breathe cell cellOf check copy count deal dig eyes fee feed fewest fine"
      + " item keep lay like lost mark place pour reads rest rule seed set sheet solid spoon springs tell text textTold told trim"
      + " turns walls why writes";
  private static final String CONSTANTS = "BAD FULL INDEX KIND NO NONE NOTHING SIZE";
  private static int wrong = 0;

  private static void must(boolean holds, String what) {
    if (!holds) {
      wrong++;
      System.out.println("not kept: " + what);
    }
  }

  public static void main(String[] args) throws Exception {
    face();
    faceOfTheDocument(Files.readString(Path.of("../shared/DOC.md")));
    classes();
    source(Files.readString(Path.of("src/main/java/UnderWhitewash.java")));
    System.out.println(wrong == 0 ? "the face and the language are as told" : wrong + " rules are not kept");
    if (wrong != 0) System.exit(1);
  }

  private static void face() {
    Class<?> c = UnderWhitewash.class;
    must(Modifier.isPublic(c.getModifiers()) && Modifier.isFinal(c.getModifiers()), "public final class");
    Set<String> methods = new TreeSet<>(), constants = new TreeSet<>();
    for (Method m : c.getDeclaredMethods()) {
      if (m.isSynthetic()) continue;
      if (!Modifier.isPrivate(m.getModifiers())) {
        must(Modifier.isPublic(m.getModifiers()) && m.getReturnType() == int.class && !Modifier.isStatic(m.getModifiers()), "face of " + m);
        for (Class<?> p : m.getParameterTypes()) must(p == int.class, "ints alone in " + m);
        must(methods.add(m.getName()), "one method of the name " + m.getName());
      }
    }
    for (Field f : c.getDeclaredFields()) {
      if (!Modifier.isPrivate(f.getModifiers())) {
        must(f.getType() == int.class && Modifier.isStatic(f.getModifiers()) && Modifier.isFinal(f.getModifiers()), "constant " + f);
        constants.add(f.getName());
      }
    }
    Constructor<?>[] made = c.getDeclaredConstructors();
    must(made.length == 1 && made[0].getParameterCount() == 0 && Modifier.isPublic(made[0].getModifiers()), "one public constructor");
    must(String.join(" ", methods).equals(FACE), "the methods of the face");
    must(String.join(" ", constants).equals(CONSTANTS), "the constants of the face");
  }

  /** The document's own lines: every constant with its value, every method with so many parameters, all ints. */
  private static void faceOfTheDocument(String doc) throws Exception {
    int from = doc.indexOf("public final class UnderWhitewash {");
    String block = doc.substring(from, doc.indexOf("```", from));
    Matcher constant = Pattern.compile("([A-Z]+) = (-?\\d+)").matcher(block);
    int constants = 0, methods = 0;
    for (; constant.find(); constants++)
      must(UnderWhitewash.class.getField(constant.group(1)).getInt(null) == Integer.parseInt(constant.group(2)), constant.group());
    Matcher method = Pattern.compile("public int (\\w+)\\(([^)]*)\\);").matcher(block);
    for (; method.find(); methods++) {
      int many = method.group(2).isEmpty() ? 0 : method.group(2).split(",").length;
      Class<?>[] ints = new Class<?>[many];
      java.util.Arrays.fill(ints, int.class);
      UnderWhitewash.class.getMethod(method.group(1), ints);
    }
    must(constants == CONSTANTS.split(" ").length, "as many constants as the document has");
    must(methods == FACE.split(" ").length, "as many methods as the document has");
  }

  private static void classes() {
    Set<String> face = new HashSet<>(List.of(FACE.split(" ")));
    List<Class<?>> all = new ArrayList<>(List.of(UnderWhitewash.class.getDeclaredClasses()));
    must(all.size() + 1 <= 12, "at most twelve classes");
    all.add(UnderWhitewash.class);
    for (Class<?> c : all) {
      boolean outer = c == UnderWhitewash.class;
      must(outer || Modifier.isStatic(c.getModifiers()) && !Modifier.isPublic(c.getModifiers()), "static and not public: " + c);
      int fields = 0;
      for (Field f : c.getDeclaredFields()) {
        if (Modifier.isStatic(f.getModifiers())) must(Modifier.isFinal(f.getModifiers()), "final: " + f);
        else fields++;
      }
      must(fields <= 20, "at most twenty fields: " + c);
      for (Method m : c.getDeclaredMethods()) {
        must(!m.isSynthetic(), "no method made by the compiler: " + m);
        must(m.getParameterCount() <= 7, "at most seven parameters: " + m);
        boolean ofFace = outer && Modifier.isPublic(m.getModifiers());
        must(ofFace || !face.contains(m.getName()), "no name of the face: " + m);
      }
    }
  }

  private static void source(String whole) {
    String code = whole.replaceAll("(?s)/\\*.*?\\*/", " ").replaceAll("//[^\n]*", " ").replaceAll("\"[^\"]*\"", "\"\"");
    for (String word : new String[] {"throw", "throws", "try", "catch", "finally", "synchronized", "assert", "package", "protected",
        "native", "volatile", "transient", "goto", "Object", "Random", "Thread", "hashCode", "toString", "Exception", "NaN",
        "double", "float", "yield", "var"})
      must(!Pattern.compile("\\b" + word + "\\b").matcher(code).find(), "no " + word);
    must(!Pattern.compile("\\bnew\\s+\\w+\\s*\\([^)]*\\)\\s*\\{").matcher(code).find(), "no anonymous class");
    must(!code.contains("->") && !code.contains("::"), "no lambda, no method reference");
    Matcher imports = Pattern.compile("import\\s+([\\w.]+)").matcher(code);
    while (imports.find()) must(imports.group(1).equals("java.util.Arrays"), "only Arrays: " + imports.group(1));
    Matcher arrays = Pattern.compile("Arrays\\.(\\w+)").matcher(code);
    while (arrays.find()) must(Set.of("copyOf", "copyOfRange", "fill").contains(arrays.group(1)), "Arrays." + arrays.group(1));
    Matcher maths = Pattern.compile("Math\\.(\\w+)").matcher(code);
    while (maths.find()) must(!maths.group(1).endsWith("Exact"), "Math." + maths.group(1));
    for (int k = 0; k < whole.length(); k++) must(whole.charAt(k) < 128, "plain signs alone");
    lengths(code.split("\n"));
  }

  /** A method's head ends in {, and its end stands as far in as its head. */
  private static void lengths(String[] lines) {
    Pattern head = Pattern.compile("^( {4}| {8})(?!(static )?final )(private |public |static )*[\\w\\[\\]]+ ?[\\w]*\\([^;]*\\) \\{$");
    int methods = 0;
    for (int k = 0; k < lines.length; k++) {
      Matcher m = head.matcher(lines[k]);
      if (!m.find()) continue;
      methods++;
      int end = k;
      while (end < lines.length - 1 && !lines[end].equals(m.group(1) + "}")) end++;
      must(end - k < 60, "at most sixty lines: " + lines[k].trim());
    }
    must(methods > 45, "methods were found");
  }
}
