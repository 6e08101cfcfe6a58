import java.lang.reflect.Constructor;
import java.lang.reflect.Field;
import java.lang.reflect.Method;
import java.lang.reflect.Modifier;
import java.nio.file.Files;
import java.nio.file.Path;
import java.util.HashSet;
import java.util.List;
import java.util.Set;
import java.util.TreeSet;
import java.util.regex.Matcher;
import java.util.regex.Pattern;

/** What of LANGUAGE.md can be seen from the source's words and from the compiled class; the source's path is the first argument. */
public final class LanguageTest {
  private static final List<String> FACE = List.of(
    "int width(int)", "int tolerance(int)", "int part(int,int,int,int,int,int,int,boolean)", "int free(int)",
    "int hinge(int,boolean,int)", "int crease(int,int,int)", "int place(int,int,int,int)", "int miss(int,int)",
    "int stuck(int)", "int out(int)", "int meet(int,int,int)", "int meets(int)", "int tall(int)", "int move(int,int)",
    "int greatest()", "int find(int,boolean,int,int,int,int)", "boolean even(int)", "int partOf(int,int)", "int count(int)");
  private static final Pattern FORBIDDEN = Pattern.compile(
    "\\b(throw|throws|try|catch|finally|synchronized|assert|import|package|native|volatile|var)\\b|->|::|Exact\\b|\\bSystem\\.(?!arraycopy)");
  private static int wrong;

  private static void hold(boolean holds, String what) {
    if (!holds) { wrong++; System.out.println("language: " + what); }
  }

  private static String shape(Method m) {
    StringBuilder text = new StringBuilder(m.getReturnType().getSimpleName() + " " + m.getName() + "(");
    for (Class<?> each : m.getParameterTypes()) text.append(text.charAt(text.length() - 1) == '(' ? "" : ",").append(each.getSimpleName());
    return text.append(")").toString();
  }

  private static void checkFace() {
    Set<String> face = new TreeSet<>();
    for (Method m : RisingPage.class.getDeclaredMethods()) {
      if (Modifier.isPublic(m.getModifiers())) face.add(shape(m));
      else hold(Modifier.isPrivate(m.getModifiers()), m.getName() + " is neither public nor private");
    }
    hold(face.equals(new TreeSet<>(FACE)), "the face is " + face);
    Constructor<?>[] made = RisingPage.class.getDeclaredConstructors();
    hold(made.length == 1 && Modifier.isPublic(made[0].getModifiers()) && made[0].getParameterCount() == 0, "the constructor");
    for (Field f : RisingPage.class.getDeclaredFields()) hold(Modifier.isPrivate(f.getModifiers()), f.getName() + " is not private");
    hold(Modifier.isFinal(RisingPage.class.getModifiers()), "the class is not final");
  }

  private static void checkMembers(Class<?> type, Set<String> faceNames) {
    int fields = 0;
    for (Field f : type.getDeclaredFields()) {
      if (Modifier.isStatic(f.getModifiers())) hold(Modifier.isFinal(f.getModifiers()), f.getName() + " is static and not final");
      else fields++;
    }
    hold(fields <= 20, type.getName() + " has " + fields + " fields");
    for (Method m : type.getDeclaredMethods()) {
      boolean ofTheFace = type == RisingPage.class && Modifier.isPublic(m.getModifiers());
      hold(ofTheFace || m.getParameterCount() <= 7, m.getName() + " takes more than seven");
      hold(ofTheFace || !faceNames.contains(m.getName()), m.getName() + " bears a public method's name");
    }
  }

  public static void main(String[] args) throws Exception {
    checkFace();
    Set<String> faceNames = new HashSet<>();
    for (Method m : RisingPage.class.getDeclaredMethods()) if (Modifier.isPublic(m.getModifiers())) faceNames.add(m.getName());
    checkMembers(RisingPage.class, faceNames);
    Class<?>[] inside = RisingPage.class.getDeclaredClasses();
    hold(inside.length + 1 <= 12, "more than twelve classes");
    for (Class<?> each : inside) {
      hold(Modifier.isStatic(each.getModifiers()), each.getName() + " is not static");
      checkMembers(each, faceNames);
    }
    String source = Files.readString(Path.of(args.length > 0 ? args[0] : "src/main/java/RisingPage.java"));
    String code = source.replaceAll("(?s)/\\*.*?\\*/", "").replaceAll("//[^\n]*", "");
    Matcher found = FORBIDDEN.matcher(code);
    while (found.find()) hold(false, "'" + found.group() + "' in the source");
    hold(source.chars().allMatch(sign -> sign < 128), "a sign above 127");
    System.out.println(wrong == 0 ? "language: the rules that can be seen are kept" : "language: " + wrong + " rules are broken");
    if (wrong != 0) System.exit(1);
  }
}
