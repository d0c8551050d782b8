import java.io.IOException;
import java.lang.reflect.Constructor;
import java.lang.reflect.Field;
import java.lang.reflect.Method;
import java.lang.reflect.Modifier;
import java.nio.file.Files;
import java.nio.file.Path;
import java.util.ArrayList;
import java.util.List;
import java.util.TreeSet;
import java.util.regex.Matcher;
import java.util.regex.Pattern;

/** The public face of DOC.md, and those rules of LANGUAGE.md that can be seen from outside. */
public final class FaceTest {
  private static final Path SOURCE = Path.of("src/main/java/RainPurse.java");
  private static final Path DOC = Path.of("../shared/DOC.md");
  private static int wrong;

  public static void main(String[] args) throws IOException {
    TreeSet<String> asked = askedFace();
    need(asked.size() == 40, "40 methods are asked for, found " + asked.size());
    TreeSet<String> shown = new TreeSet<>();
    TreeSet<String> names = new TreeSet<>();
    for (Method m : RainPurse.class.getDeclaredMethods()) {
      if (Modifier.isPublic(m.getModifiers())) {
        shown.add(faceOf(m));
        names.add(m.getName());
        need(!Modifier.isStatic(m.getModifiers()), m + " is static");
      }
    }
    need(shown.equals(asked), "shown: " + shown + ", asked: " + asked);
    membersArePrivate(names);
    need(Modifier.isFinal(RainPurse.class.getModifiers()), "the class is final");
    need(RainPurse.class.getConstructors().length == 1, "one public constructor");
    sourceKeepsToTheLanguage();
    if (wrong != 0) {
      System.exit(1);
    }
    System.out.println("FaceTest: the face is as asked");
  }

  private static void need(boolean right, String what) {
    if (!right) {
      wrong++;
      System.out.println("FaceTest: " + what);
    }
  }

  private static TreeSet<String> askedFace() throws IOException {
    String doc = Files.readString(DOC);
    String face = doc.substring(doc.indexOf("## The public face"), doc.indexOf("## Terms"));
    Matcher m = Pattern.compile("public (int|long) (\\w+)\\(([^)]*)\\);").matcher(face);
    TreeSet<String> asked = new TreeSet<>();
    while (m.find()) {
      asked.add(m.group(1) + " " + m.group(2) + "(" + m.group(3).replaceAll(" \\w+(, |$)", "$1") + ")");
    }
    return asked;
  }

  private static String faceOf(Method m) {
    List<String> types = new ArrayList<>();
    for (Class<?> c : m.getParameterTypes()) {
      types.add(c.getSimpleName());
    }
    return m.getReturnType().getSimpleName() + " " + m.getName() + "(" + String.join(", ", types) + ")";
  }

  private static void membersArePrivate(TreeSet<String> publicNames) {
    for (Method m : RainPurse.class.getDeclaredMethods()) {
      int how = m.getModifiers();
      need(Modifier.isPublic(how) || Modifier.isPrivate(how), m + " is neither public nor private");
      need(Modifier.isPublic(how) || !publicNames.contains(m.getName()), m + " bears a public name");
    }
    for (Field f : RainPurse.class.getDeclaredFields()) {
      need(Modifier.isPrivate(f.getModifiers()), f + " is not private");
    }
    for (Constructor<?> c : RainPurse.class.getDeclaredConstructors()) {
      need(Modifier.isPublic(c.getModifiers()), c + " is not public");
    }
    Class<?>[] inside = RainPurse.class.getDeclaredClasses();
    need(inside.length < 12, "too many classes");
    for (Class<?> c : inside) {
      need(Modifier.isStatic(c.getModifiers()), c + " is not static");
      classIsSmall(c, publicNames);
    }
    classIsSmall(RainPurse.class, new TreeSet<>());
  }

  private static void classIsSmall(Class<?> c, TreeSet<String> publicNames) {
    int fields = 0;
    for (Field f : c.getDeclaredFields()) {
      boolean still = Modifier.isStatic(f.getModifiers());
      need(!still || Modifier.isFinal(f.getModifiers()), f + " is static and not final");
      fields += still ? 0 : 1;
    }
    need(fields <= 20, c + " has too many fields");
    for (Method m : c.getDeclaredMethods()) {
      need(m.getParameterCount() <= 7, m + " has too many parameters");
      need(!publicNames.contains(m.getName()), m + " bears a public name");
    }
  }

  private static void sourceKeepsToTheLanguage() throws IOException {
    String source = Files.readString(SOURCE);
    String code = source.replaceAll("(?s)/\\*.*?\\*/", "").replaceAll("//[^\n]*", "");
    String[] banned = {
      "\\bthrow\\b", "\\btry\\b", "\\bcatch\\b", "\\bsynchronized\\b", "\\bassert\\b", "\\bimport\\b",
      "\\bpackage\\b", "->", "::", "\\bvar\\b", "\\w+Exact\\b", "\\bstatic\\s*\\{", "\\bprotected\\b",
      "\\bSystem\\.(?!arraycopy)", "\\bThread\\b", "\\bdouble\\b", "\\bfloat\\b", "\"", "\\bObject\\b"
    };
    for (String pattern : banned) {
      need(!Pattern.compile(pattern).matcher(code).find(), "the source has " + pattern);
    }
    for (char c : source.toCharArray()) {
      need(c < 127, "the source has a sign beyond 126");
    }
    int line = 0;
    for (String text : source.split("\n")) {
      line++;
      need(text.length() <= 100, "line " + line + " is too long");
    }
  }
}
