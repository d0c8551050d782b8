import java.io.IOException;
import java.lang.reflect.Constructor;
import java.lang.reflect.Field;
import java.lang.reflect.Method;
import java.lang.reflect.Modifier;
import java.nio.file.Files;
import java.nio.file.Path;
import java.util.ArrayList;
import java.util.List;
import java.util.TreeSet;
import java.util.regex.Matcher;
import java.util.regex.Pattern;

/** The public face of DOC.md, and those rules of LANGUAGE.md that can be seen from outside. */
public final class FaceTest {
  private static final Path SOURCE = Path.of("src/main/java/RainPurse.java");
  private static final Path DOC = Path.of("../shared/DOC.md");
  private static final int MOST_LINES = 60;
  private static int wrong;

  public static void main(String[] args) throws IOException {
    TreeSet<String> asked = askedFace();
    need(asked.size() == 40, "40 methods are asked for, found " + asked.size());
    TreeSet<String> shown = new TreeSet<>();
    TreeSet<String> names = new TreeSet<>();
    for (Method m : RainPurse.class.getDeclaredMethods()) {
      if (Modifier.isPublic(m.getModifiers())) {
        shown.add(faceOf(m));
        names.add(m.getName());
        need(!Modifier.isStatic(m.getModifiers()), m + " is static");
      }
    }
    need(shown.equals(asked), "shown: " + shown + ", asked: " + asked);
    membersArePrivate(names);
    classIsAsAsked();
    sourceKeepsToTheLanguage();
    sourceHasTheFace();
    libraryIsTheListed();
    methodsAreShort();
    if (wrong != 0) {
      System.exit(1);
    }
    System.out.println("FaceTest: the face is as asked");
  }

  private static void need(boolean right, String what) {
    if (!right) {
      wrong++;
      System.out.println("FaceTest: " + what);
    }
  }

  private static TreeSet<String> askedFace() throws IOException {
    String doc = Files.readString(DOC);
    String face = doc.substring(doc.indexOf("## The public face"), doc.indexOf("## Terms"));
    Matcher m = Pattern.compile("public (int|long) (\\w+)\\(([^)]*)\\);").matcher(face);
    TreeSet<String> asked = new TreeSet<>();
    while (m.find()) {
      asked.add(m.group(1) + " " + m.group(2) + "(" + m.group(3).replaceAll(" \\w+(, |$)", "$1") + ")");
    }
    return asked;
  }

  private static String faceOf(Method m) {
    List<String> types = new ArrayList<>();
    for (Class<?> c : m.getParameterTypes()) {
      types.add(c.getSimpleName());
    }
    return m.getReturnType().getSimpleName() + " " + m.getName() + "(" + String.join(", ", types) + ")";
  }

  private static void classIsAsAsked() {
    Class<?> c = RainPurse.class;
    need(Modifier.isPublic(c.getModifiers()), "the class is not public");
    need(Modifier.isFinal(c.getModifiers()), "the class is not final");
    need(c.getSuperclass() == Object.class, "the class is under another one");
    need(c.getInterfaces().length == 0, "the class has interfaces");
    Constructor<?>[] made = c.getConstructors();
    need(made.length == 1 && made[0].getParameterCount() == 0, "one constructor, without parameters");
  }

  private static void membersArePrivate(TreeSet<String> publicNames) {
    for (Method m : RainPurse.class.getDeclaredMethods()) {
      int how = m.getModifiers();
      need(Modifier.isPublic(how) || Modifier.isPrivate(how), m + " is neither public nor private");
      need(Modifier.isPublic(how) || !publicNames.contains(m.getName()), m + " bears a public name");
    }
    for (Field f : RainPurse.class.getDeclaredFields()) {
      need(Modifier.isPrivate(f.getModifiers()), f + " is not private");
    }
    for (Constructor<?> c : RainPurse.class.getDeclaredConstructors()) {
      need(Modifier.isPublic(c.getModifiers()), c + " is not public");
    }
    Class<?>[] inside = RainPurse.class.getDeclaredClasses();
    need(inside.length < 12, "too many classes");
    for (Class<?> c : inside) {
      need(Modifier.isStatic(c.getModifiers()), c + " is not static");
      classIsSmall(c, publicNames);
    }
    classIsSmall(RainPurse.class, new TreeSet<>());
  }

  private static void classIsSmall(Class<?> c, TreeSet<String> publicNames) {
    int fields = 0;
    for (Field f : c.getDeclaredFields()) {
      boolean still = Modifier.isStatic(f.getModifiers());
      need(!still || Modifier.isFinal(f.getModifiers()), f + " is static and not final");
      fields += still ? 0 : 1;
    }
    need(fields <= 20, c + " has too many fields");
    for (Method m : c.getDeclaredMethods()) {
      need(m.getParameterCount() <= 7, m + " has too many parameters");
      need(!publicNames.contains(m.getName()), m + " bears a public name");
    }
  }

  /** Lines stay where they are. */
  private static String codeWithoutComments() throws IOException {
    String source = Files.readString(SOURCE);
    StringBuilder code = new StringBuilder();
    for (String part : source.split("(?=/\\*)")) {
      int end = part.startsWith("/*") ? part.indexOf("*/") + 2 : 0;
      code.append(part.substring(0, end).replaceAll("[^\n]", "")).append(part.substring(end));
    }
    return code.toString().replaceAll("//[^\n]*", "");
  }

  /** Each line of the document's face, its parameters' names and its order, too. */
  private static void sourceHasTheFace() throws IOException {
    String doc = Files.readString(DOC);
    String face = doc.substring(doc.indexOf("## The public face"), doc.indexOf("## Terms"));
    String code = codeWithoutComments();
    int from = 0;
    for (String line : face.split("\n")) {
      String asked = line.trim();
      if (asked.startsWith("public ") && asked.endsWith(");")) {
        int at = code.indexOf(asked.replace(");", ") {"), from);
        need(at >= 0, asked + " is missing, or not in its place");
        from = Math.max(from, at);
      }
    }
  }

  private static void libraryIsTheListed() throws IOException {
    Matcher used = Pattern.compile("\\b(Math|Integer|Long|System|Arrays|String|List)\\.(\\w+)")
        .matcher(codeWithoutComments());
    List<String> listed = List.of("Math.max", "Math.min", "Math.abs", "Integer.bitCount",
        "System.arraycopy");
    while (used.find()) {
      need(listed.contains(used.group()), used.group() + " is used");
    }
  }

  /** A method is what stands between its first line and the brace that is as deep as that. */
  private static void methodsAreShort() throws IOException {
    int begun = 0;
    int methods = 0;
    String end = null;
    Pattern first = Pattern.compile("( +)[\\w<>\\[\\] ]+\\([^;=]*\\) \\{");
    int number = 0;
    for (String line : codeWithoutComments().split("\n")) {
      number++;
      Matcher m = first.matcher(line);
      if (end == null && m.matches()) {
        end = m.group(1) + "}";
        begun = number;
      } else if (line.equals(end)) {
        need(number - begun <= MOST_LINES, "the method in line " + begun + " is long");
        methods++;
        end = null;
      }
    }
    need(methods > 100, "only " + methods + " methods were looked at");
  }

  private static void sourceKeepsToTheLanguage() throws IOException {
    String source = Files.readString(SOURCE);
    String code = codeWithoutComments();
    String[] banned = {
      "\\bthrow\\b", "\\btry\\b", "\\bcatch\\b", "\\bsynchronized\\b", "\\bassert\\b", "\\bimport\\b",
      "\\bpackage\\b", "->", "::", "\\bvar\\b", "\\w+Exact\\b", "\\bstatic\\s*\\{", "\\bprotected\\b",
      "\\bSystem\\.(?!arraycopy)", "\\bThread\\b", "\\bdouble\\b", "\\bfloat\\b", "\"", "\\bObject\\b"
    };
    for (String pattern : banned) {
      need(!Pattern.compile(pattern).matcher(code).find(), "the source has " + pattern);
    }
    for (char c : source.toCharArray()) {
      need(c < 127, "the source has a sign beyond 126");
    }
    int line = 0;
    for (String text : source.split("\n")) {
      line++;
      need(text.length() <= 100, "line " + line + " is too long");
    }
  }
}
