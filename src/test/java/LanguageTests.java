import java.io.IOException;
import java.lang.reflect.Field;
import java.lang.reflect.Method;
import java.lang.reflect.Modifier;
import java.nio.file.Files;
import java.nio.file.Path;
import java.util.Arrays;
import java.util.HashSet;
import java.util.List;
import java.util.Set;
import java.util.TreeSet;
import java.util.regex.Matcher;
import java.util.regex.Pattern;

/** The rules of LANGUAGE.md that can be seen in the program's text and its compiled face. */
public final class LanguageTests {
  private static final String[] FACE = {
    "ahead(int)IllegalArgumentException",
    "ask(int,int,int,int)IndexOutOfBoundsException,IllegalArgumentException",
    "bad(int,boolean)IndexOutOfBoundsException",
    "breaks(int,int)IndexOutOfBoundsException,IllegalArgumentException",
    "brokenBy(int)IndexOutOfBoundsException",
    "covers(int)IllegalArgumentException",
    "digest()",
    "draw(int)IllegalArgumentException",
    "edge(int,int)IllegalArgumentException,IndexOutOfBoundsException",
    "fewest()",
    "generate()IllegalStateException",
    "lead(int,int,int)IndexOutOfBoundsException",
    "many(int)IllegalArgumentException",
    "meanEnergy()",
    "mutate()IllegalStateException",
    "ofEdge(int,int)IndexOutOfBoundsException,IllegalArgumentException",
    "ofKnown(int,int)IndexOutOfBoundsException,IllegalArgumentException",
    "otherwise(int,int,int)IndexOutOfBoundsException,IllegalArgumentException",
    "relation(int,int,int)IllegalArgumentException,IndexOutOfBoundsException,IllegalStateException",
    "run(int)IllegalArgumentException",
    "shrink(int)IllegalArgumentException",
    "smallest(int,int)IndexOutOfBoundsException,IllegalArgumentException",
    "taste(int)IllegalArgumentException,IllegalStateException",
    "weights(int,int,int,int)IndexOutOfBoundsException,IllegalArgumentException",
    "wouldDrop(int)IllegalArgumentException",
  };
  private static final String[] NEVER = {
    "->", "::", "\\bfinally\\b", "\\bsynchronized\\b", "\\bassert\\b", "\\bstatic *\\{",
    "Exact\\b", "\\bprotected\\b", "\\bpackage\\b", "\\bSystem\\.(out|err|nano|current|get)",
    "\\bRandom\\b", "\\bThread\\b", "[^\\x00-\\x7f]"
  };
  private static final Set<String> IMPORTS = Set.of("java.util.Arrays", "java.util.ArrayList",
      "java.util.List", "java.util.Iterator", "java.util.NoSuchElementException");
  private static final Check check = new Check("LanguageTests");

  public static void main(String[] args) throws IOException {
    String text = Files.readString(Path.of("src/main/java/TestkitchenBench.java"));
    String code = text.replaceAll("(?s)/\\*.*?\\*/", "").replaceAll("//[^\n]*", "");
    // An arrow of a switch is none of a lambda.
    words(code.replaceAll("\\b(case\\b[^:;{}]*?|default *)->", "$1:"));
    face();
    insides();
    check.end();
  }

  private static void words(String code) {
    for (String never : NEVER) {
      check.due("no " + never, false, () -> Pattern.compile(never).matcher(code).find());
    }
    Matcher imports = Pattern.compile("import +([^;]+);").matcher(code);
    while (imports.find()) {
      String name = imports.group(1);
      check.due("import " + name, true, () -> IMPORTS.contains(name));
    }
    Matcher thrown = Pattern.compile("throw ([^;]*);").matcher(code);
    String written = "new (IndexOutOfBounds|IllegalArgument|IllegalState|Arithmetic"
        + "|UnsupportedOperation|NoSuchElement|Runtime)Exception\\((\"[ -~]*\")?\\)";
    while (thrown.find()) {
      String what = thrown.group(1);
      check.due("throw " + what, true, () -> what.matches(written));
    }
  }

  private static String told(Method method) {
    String told = method.getName() + "(";
    for (Class<?> type : method.getParameterTypes()) {
      told += (told.endsWith("(") ? "" : ",") + type.getSimpleName();
    }
    told += ")";
    for (Class<?> type : method.getExceptionTypes()) {
      told += (told.endsWith(")") ? "" : ",") + type.getSimpleName();
    }
    return told;
  }

  private static void face() {
    Class<?> face = TestkitchenBench.class;
    Set<String> seen = new TreeSet<>();
    Set<String> open = new HashSet<>();
    for (Method method : face.getDeclaredMethods()) {
      if (!Modifier.isPrivate(method.getModifiers()) && !method.isSynthetic()) {
        seen.add(told(method));
        open.add(method.getName());
        check.due(told(method) + " is public", Modifier.PUBLIC, () -> method.getModifiers());
      }
    }
    check.due("the face", new TreeSet<>(List.of(FACE)), () -> seen);
    check.due("class", Modifier.PUBLIC | Modifier.FINAL, () -> face.getModifiers());
    check.due("constructors", 1, () -> face.getConstructors().length);
    check.due("all constructors", 1, () -> face.getDeclaredConstructors().length);
    check.due("digest answers", long.class, () -> type("digest"));
    check.due("meanEnergy answers", double.class, () -> type("meanEnergy"));
    check.due("breaks answers", boolean.class, () -> type("breaks"));
    privateNames(face, open);
    for (Class<?> inside : face.getDeclaredClasses()) {
      privateNames(inside, open);
    }
  }

  private static Class<?> type(String name) {
    for (Method method : TestkitchenBench.class.getDeclaredMethods()) {
      if (method.getName().equals(name)) {
        return method.getReturnType();
      }
    }
    return null;
  }

  private static void privateNames(Class<?> owner, Set<String> open) {
    for (Method method : owner.getDeclaredMethods()) {
      String name = owner.getSimpleName() + "." + method.getName();
      check.due(name + " has few parameters", true, () -> method.getParameterCount() <= 7);
      if (Modifier.isPrivate(method.getModifiers())) {
        check.due(name + " is no name of the face", false, () -> open.contains(method.getName()));
      }
    }
  }

  private static void insides() {
    Class<?>[] classes = TestkitchenBench.class.getDeclaredClasses();
    check.due("some twelve classes", true, () -> classes.length < 14);
    fields(TestkitchenBench.class);
    for (Class<?> inside : classes) {
      int kind = inside.getModifiers();
      check.due(inside + " is not public", false, () -> Modifier.isPublic(kind));
      fields(inside);
    }
  }

  private static void fields(Class<?> owner) {
    List<Field> fields = Arrays.asList(owner.getDeclaredFields());
    for (Field field : fields) {
      int kind = field.getModifiers();
      if (owner == TestkitchenBench.class) {
        check.due(field + " is private", true, () -> Modifier.isPrivate(kind));
      }
      if (Modifier.isStatic(kind)) {
        check.due(field + " is final", true, () -> Modifier.isFinal(kind));
      }
    }
    long own = fields.stream().filter(f -> !Modifier.isStatic(f.getModifiers())).count();
    check.due(owner + " has few fields", true, () -> own <= 24);
  }
}
