import java.lang.reflect.Constructor;
import java.lang.reflect.Field;
import java.lang.reflect.Method;
import java.lang.reflect.Modifier;
import java.nio.file.Files;
import java.nio.file.Path;
import java.util.Set;
import java.util.TreeSet;
import java.util.regex.Matcher;
import java.util.regex.Pattern;

/** The public face, and those rules of LANGUAGE.md that can be seen from outside. */
public final class FaceTest {
  private static final Set<String> FACE = Set.of("thing(int)", "set(int,int)", "step(int,int,int,int,int)",
      "clear(int)", "run()", "trace(int)", "told(int)", "at(int)", "number(int)", "count(int)");

  public static void main(String[] args) throws Exception {
    Due due = new Due();
    constants(due);
    methods(due);
    nested(due);
    words(due);
    due.end();
  }

  private static void constants(Due due) {
    due.is("NONE", HoldBench.NONE, -1);
    due.is("BAD", HoldBench.BAD, -2);
    due.is("FULL", HoldBench.FULL, -3);
    Set<String> seen = new TreeSet<>();
    for (Field f : HoldBench.class.getDeclaredFields()) {
      int how = f.getModifiers();
      if (Modifier.isPublic(how)) seen.add(f.getName());
      else due.isTrue("private: " + f.getName(), Modifier.isPrivate(how));
      if (Modifier.isStatic(how)) due.isTrue("final: " + f.getName(), Modifier.isFinal(how));
    }
    due.isTrue("constants " + seen, seen.equals(Set.of("NONE", "BAD", "FULL")));
  }

  private static void methods(Due due) {
    due.isTrue("public final", Modifier.isPublic(HoldBench.class.getModifiers())
        && Modifier.isFinal(HoldBench.class.getModifiers()));
    Constructor<?>[] made = HoldBench.class.getDeclaredConstructors();
    due.is("constructors", made.length, 1);
    due.isTrue("public HoldBench()", Modifier.isPublic(made[0].getModifiers()) && made[0].getParameterCount() == 0);
    Set<String> seen = new TreeSet<>();
    for (Method m : HoldBench.class.getDeclaredMethods()) {
      String face = m.toString().replaceAll(".*HoldBench\\.", "");
      if (Modifier.isPublic(m.getModifiers())) {
        seen.add(face);
        due.isTrue("int " + face, m.getReturnType() == int.class && !Modifier.isStatic(m.getModifiers()));
      } else {
        due.isTrue("private: " + face, Modifier.isPrivate(m.getModifiers()));
        apart(due, m);
      }
    }
    due.isTrue("methods " + seen, seen.equals(FACE));
  }

  private static void apart(Due due, Method m) {
    for (String face : FACE) due.isTrue("another name than " + face, !face.startsWith(m.getName() + "("));
  }

  private static void nested(Due due) {
    for (Class<?> c : HoldBench.class.getDeclaredClasses()) {
      due.isTrue("static: " + c, Modifier.isStatic(c.getModifiers()));
      for (Method m : c.getDeclaredMethods()) apart(due, m);
    }
  }

  private static void words(Due due) throws Exception {
    String source = Files.readString(Path.of("src/main/java/HoldBench.java"))
        .replaceAll("(?s)/\\*.*?\\*/", " ").replaceAll("//[^\n]*", " ");
    String ruledOut = "\\b(throw|throws|try|catch|finally|synchronized|assert|package)\\b|->|::";
    Matcher m = Pattern.compile(ruledOut).matcher(source);
    due.isTrue("no word that LANGUAGE.md rules out", !m.find());
  }
}
