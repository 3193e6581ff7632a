import java.lang.reflect.Constructor;
import java.lang.reflect.Field;
import java.lang.reflect.Method;
import java.lang.reflect.Modifier;
import java.nio.file.Files;
import java.nio.file.Path;
import java.util.ArrayList;
import java.util.Arrays;
import java.util.List;
import java.util.Set;
import java.util.TreeSet;
import java.util.regex.Matcher;
import java.util.regex.Pattern;

/** The class has the face that ../shared/DOC.md tells, and none besides; its first argument is that document's path. */
public final class FaceTest {
  private static int wrong = 0;

  private static void hold(boolean holds, String what) {
    if (!holds) { wrong++; System.out.println("FaceTest: " + what); }
  }

  private static String signature(Method m) {
    List<String> types = new ArrayList<>();
    for (Class<?> c : m.getParameterTypes()) types.add(c.getSimpleName());
    List<String> thrown = new ArrayList<>();
    for (Class<?> c : m.getExceptionTypes()) thrown.add(c.getSimpleName());
    return m.getReturnType().getSimpleName() + " " + m.getName() + types + thrown;
  }

  private static Set<String> documented(String doc) {
    String face = doc.substring(doc.indexOf("```java"), doc.indexOf("## Terms"));
    Matcher m = Pattern.compile("public (\\w+) (\\w+)\\(([^)]*)\\)(?: throws ([^;]*))?;").matcher(face);
    Set<String> all = new TreeSet<>();
    while (m.find()) {
      List<String> types = new ArrayList<>();
      for (String p : m.group(3).split(",")) if (!p.isBlank()) types.add(p.trim().split(" ")[0]);
      List<String> thrown = m.group(4) == null ? List.of() : Arrays.asList(m.group(4).trim().split(", "));
      all.add(m.group(1) + " " + m.group(2) + types + thrown);
    }
    return all;
  }

  public static void main(String[] args) throws Exception {
    Class<?> c = DoorwayCensus.class;
    hold(Modifier.isPublic(c.getModifiers()) && Modifier.isFinal(c.getModifiers()), "the class is public and final");
    hold(c.getDeclaredConstructors().length == 1, "one constructor");
    for (Constructor<?> k : c.getDeclaredConstructors())
      hold(Modifier.isPublic(k.getModifiers()) && k.getParameterCount() == 0, "the constructor");
    Set<String> open = new TreeSet<>(), openNames = new TreeSet<>();
    for (Method m : c.getDeclaredMethods())
      if (Modifier.isPublic(m.getModifiers())) { open.add(signature(m)); openNames.add(m.getName()); }
    for (Method m : c.getDeclaredMethods())
      if (!Modifier.isPublic(m.getModifiers()))
        hold(Modifier.isPrivate(m.getModifiers()) && !openNames.contains(m.getName()), "the method " + m.getName());
    for (Field f : c.getDeclaredFields()) {
      hold(Modifier.isPrivate(f.getModifiers()), "the field " + f.getName());
      if (Modifier.isStatic(f.getModifiers())) hold(Modifier.isFinal(f.getModifiers()), "the constant " + f.getName());
    }
    for (Class<?> n : c.getDeclaredClasses())
      hold(Modifier.isStatic(n.getModifiers()) && !Modifier.isPublic(n.getModifiers()), "the class " + n.getName());
    Set<String> want = documented(Files.readString(Path.of(args[0])));
    hold(want.size() == 47, "the document's face has 47 methods, found " + want.size());
    hold(open.equals(want), "the public methods are\n" + open + "\ndue are\n" + want);
    System.out.println(wrong == 0 ? "FaceTest: all as due" : "FaceTest: " + wrong + " not as due");
    if (wrong != 0) System.exit(1);
  }
}
