import java.lang.reflect.Constructor;
import java.lang.reflect.Field;
import java.lang.reflect.Method;
import java.lang.reflect.Modifier;
import java.nio.file.Files;
import java.nio.file.Path;
import java.util.Arrays;
import java.util.Set;
import java.util.TreeSet;
import java.util.regex.Matcher;
import java.util.regex.Pattern;

/** The public face, and those rules of LANGUAGE.md that can be seen from outside. */
public final class FaceTest {
  private static final Set<String> FACE = Set.of("thing(int)", "set(int,int)", "step(int,int,int,int,int)",
      "clear(int)", "run()", "trace(int)", "told(int)", "at(int)", "number(int)", "count(int)");

  public static void main(String[] args) throws Exception {
    Due due = new Due();
    constants(due);
    methods(due);
    nested(due);
    sizes(due);
    handsOutNothing(due);
    words(due);
    library(due);
    due.end();
  }

  private static void constants(Due due) {
    due.is("NONE", HoldBench.NONE, -1);
    due.is("BAD", HoldBench.BAD, -2);
    due.is("FULL", HoldBench.FULL, -3);
    Set<String> seen = new TreeSet<>();
    for (Field f : HoldBench.class.getDeclaredFields()) {
      int how = f.getModifiers();
      if (Modifier.isPublic(how)) seen.add(f.getName());
      else due.isTrue("private: " + f.getName(), Modifier.isPrivate(how));
      if (Modifier.isStatic(how)) due.isTrue("final: " + f.getName(), Modifier.isFinal(how));
    }
    due.isTrue("constants " + seen, seen.equals(Set.of("NONE", "BAD", "FULL")));
  }

  private static void methods(Due due) {
    due.isTrue("public final", Modifier.isPublic(HoldBench.class.getModifiers())
        && Modifier.isFinal(HoldBench.class.getModifiers()));
    Constructor<?>[] made = HoldBench.class.getDeclaredConstructors();
    due.is("constructors", made.length, 1);
    due.isTrue("public HoldBench()", Modifier.isPublic(made[0].getModifiers()) && made[0].getParameterCount() == 0);
    Set<String> seen = new TreeSet<>();
    for (Method m : HoldBench.class.getDeclaredMethods()) {
      String face = m.toString().replaceAll(".*HoldBench\\.", "");
      if (Modifier.isPublic(m.getModifiers())) {
        seen.add(face);
        due.isTrue("int " + face, m.getReturnType() == int.class && !Modifier.isStatic(m.getModifiers()));
      } else {
        due.isTrue("private: " + face, Modifier.isPrivate(m.getModifiers()));
        apart(due, m);
      }
    }
    due.isTrue("methods " + seen, seen.equals(FACE));
  }

  private static void apart(Due due, Method m) {
    for (String face : FACE) due.isTrue("another name than " + face, !face.startsWith(m.getName() + "("));
  }

  private static void nested(Due due) {
    for (Class<?> c : HoldBench.class.getDeclaredClasses()) {
      due.isTrue("static: " + c, Modifier.isStatic(c.getModifiers()));
      for (Method m : c.getDeclaredMethods()) apart(due, m);
    }
  }

  private static Class<?>[] all() {
    Class<?>[] inside = HoldBench.class.getDeclaredClasses();
    Class<?>[] all = Arrays.copyOf(inside, inside.length + 1);
    all[inside.length] = HoldBench.class;
    return all;
  }

  /** Rules 5 and 11: seven parameters, some twelve classes, some twenty fields; no static field changes. */
  private static void sizes(Due due) throws Exception {
    due.isTrue("at most twelve classes", all().length <= 12);
    for (Class<?> c : all()) {
      int fields = 0;
      for (Field f : c.getDeclaredFields()) {
        if (!Modifier.isStatic(f.getModifiers())) fields++;
        else due.isTrue("a constant: " + f, Modifier.isFinal(f.getModifiers()) && f.getType() == int.class);
      }
      due.isTrue("at most twenty fields: " + c, fields <= 20);
      for (Method m : c.getDeclaredMethods()) due.isTrue("at most seven parameters: " + m, m.getParameterCount() <= 7);
    }
    Matcher body = Pattern.compile("(?ms)^( {4}| {8})(?:public|private) [^;=]*?\\) \\{$.*?^\\1\\}$").matcher(source());
    int methods = 0;
    while (body.find()) {
      methods++;
      due.isTrue("at most sixty lines: " + body.group().lines().findFirst(), body.group().lines().count() <= 60);
    }
    due.isTrue("methods were found: " + methods, methods > 40);
  }

  /** Rule 12: what a constructor makes can't be handed out if no constructor inside takes anything. */
  private static void handsOutNothing(Due due) {
    for (Class<?> c : all()) {
      for (Constructor<?> made : c.getDeclaredConstructors()) {
        due.is("parameters of " + made, made.getParameterCount(), 0);
      }
    }
  }

  /** The class's text without what its comments say. */
  private static String source() throws Exception {
    return Files.readString(Path.of("src/main/java/HoldBench.java"))
        .replaceAll("(?s)/\\*.*?\\*/", " ").replaceAll("//[^\n]*", " ");
  }

  /** Rules 2, 6 and 10: words and signs that are ruled out. */
  private static void words(Due due) throws Exception {
    String ruledOut = "\\b(throw|throws|try|catch|finally|synchronized|assert|package|instanceof|this)\\b|->|::|\"";
    Matcher m = Pattern.compile(ruledOut).matcher(source());
    boolean found = m.find();
    due.isTrue("nothing that LANGUAGE.md rules out, nor what it makes no use of" + (found ? ": " + m.group() : ""),
        !found);
  }

  /** Rule 4: of the library, only these are used. */
  private static void library(Due due) throws Exception {
    Matcher imports = Pattern.compile("\\bimport\\s+([^;]+);").matcher(source());
    while (imports.find()) due.isTrue("import " + imports.group(1), imports.group(1).equals("java.util.Arrays"));
    Set<String> used = new TreeSet<>();
    Matcher calls = Pattern.compile("\\b([A-Z]\\w*[a-z]\\w*\\.\\w+)\\(").matcher(source());
    while (calls.find()) used.add(calls.group(1));
    due.isTrue("the library's " + used, Set.of("Arrays.fill", "Math.max", "Math.min").containsAll(used));
  }
}
