import java.io.IOException;
import java.lang.reflect.Constructor;
import java.lang.reflect.Field;
import java.lang.reflect.Method;
import java.lang.reflect.Modifier;
import java.nio.file.Files;
import java.nio.file.Path;
import java.util.Set;
import java.util.TreeSet;
import java.util.regex.Matcher;
import java.util.regex.Pattern;

/** The class keeps to what of ../shared/LANGUAGE.md can be seen by its text and its face. */
public final class SourceTest {
  private static final Path SOURCE = Path.of("src/main/java/SixtyOneCabs.java");

  /** The document's face, as it is written there. */
  private static final String[] FACE = {
    "int letter(int)", "int evening()", "int sees(int,int)", "int unsees(int)", "int sheet(int,int)", "int of(int,int)",
    "int looker(int,int)", "int believes(int,int)", "int belief(int)", "int turn(int,int,int)", "int paid(int,int)",
    "long chance(int,int,int,int)", "long most(int,int,int,int)", "long guess(int,int,int)", "int nearest(int,int)",
    "int ordered(int,int)", "long off(int,int,int,int)", "long mean(int,int,int,int)", "int fair(int,int)",
    "int best(int,int)", "int sure(int,int,int)", "int look(int,int)", "long before(int,int)",
    "long after(int,int,int)", "int which(int)", "long about(int,int)", "long next(int,int)",
    "long again(int,int,int,int)", "int likeliest(int,int)", "long more(int,int)", "long gone(int,int,int,int)",
    "int gap(int,int)", "int missing(int)", "int two(int,int,int,int)", "int whatIs(int,int,int)", "int row(int)",
    "int judge(int)", "int clear()", "int lots(int,int,int)", "int image()", "int on()", "int count(int)"
  };

  private static final String[] FORBIDDEN = {
    "\\bthrows?\\b", "\\btry\\b", "\\bcatch\\b", "\\bsynchronized\\b", "\\bassert\\b", "->", "::", "\\bimport\\b",
    "\\bpackage\\b", "\\bnew [A-Z]\\w*\\([^)]*\\) *\\{", "\\bequals\\b", "\\bhashCode\\b", "\\btoString\\b", "@",
    "Exact\\(", "\\bstatic \\{", "\\bRandom\\b", "currentTimeMillis|nanoTime", "\\bThread\\b", "\\bSystem\\.(?!arraycopy)"
  };

  public static void main(String[] args) throws IOException {
    String code = withoutComments(Files.readString(SOURCE));
    face();
    forbidden(code);
    staticFields(SixtyOneCabs.class);
    nestedClasses();
    methodsAreShort(code);
    methodNames(code);
    signs(Files.readString(SOURCE));
    madeInConstructorsAlone(code);
    Check.end("SourceTest");
  }

  private static String withoutComments(String text) {
    return text.replaceAll("(?s)/\\*.*?\\*/", "").replaceAll("//[^\n]*", "");
  }

  private static void face() {
    Set<String> want = new TreeSet<>(Set.of(FACE));
    Set<String> got = new TreeSet<>();
    for (Method method : SixtyOneCabs.class.getDeclaredMethods()) {
      if (!Modifier.isPrivate(method.getModifiers())) {
        StringBuilder types = new StringBuilder();
        for (Class<?> type : method.getParameterTypes()) {
          types.append(types.length() == 0 ? "" : ",").append(type.getName());
        }
        got.add(method.getReturnType() + " " + method.getName() + "(" + types + ")");
      }
    }
    Check.holds("the face is the document's: " + got, got.equals(want));
    for (Field field : SixtyOneCabs.class.getDeclaredFields()) {
      Check.holds("private field " + field.getName(), Modifier.isPrivate(field.getModifiers()));
    }
    Constructor<?>[] constructors = SixtyOneCabs.class.getDeclaredConstructors();
    Check.due("constructors", constructors.length, 1);
    Check.due("its parameters", constructors[0].getParameterCount(), 0);
    Check.holds("it is public", Modifier.isPublic(constructors[0].getModifiers()));
    Check.holds("the class is public and final", Modifier.isPublic(SixtyOneCabs.class.getModifiers())
        && Modifier.isFinal(SixtyOneCabs.class.getModifiers()));
  }

  private static void forbidden(String code) {
    for (String pattern : FORBIDDEN) {
      Matcher matcher = Pattern.compile(pattern).matcher(code);
      Check.holds("no " + pattern, !matcher.find());
    }
    Matcher called = Pattern.compile("\\b(Math|Integer|Long|Arrays)\\.(\\w+)").matcher(code);
    Set<String> allowed = Set.of("max", "min", "abs", "bitCount", "compare");
    while (called.find()) {
      Check.holds("only what the library list holds: " + called.group(), allowed.contains(called.group(2)));
    }
  }

  private static void staticFields(Class<?> type) {
    int own = 0;
    for (Field field : type.getDeclaredFields()) {
      if (Modifier.isStatic(field.getModifiers())) {
        Check.holds("final: " + field.getName(), Modifier.isFinal(field.getModifiers()));
      } else {
        own++;
      }
    }
    Check.holds("fields of " + type.getName(), own <= 20);
  }

  private static void nestedClasses() {
    Class<?>[] inside = SixtyOneCabs.class.getDeclaredClasses();
    Check.holds("classes", inside.length + 1 <= 12);
    for (Class<?> type : inside) {
      staticFields(type);
      Check.holds("static: " + type.getName(), Modifier.isStatic(type.getModifiers()));
      Check.holds("not public: " + type.getName(), !Modifier.isPublic(type.getModifiers())
          && !Modifier.isProtected(type.getModifiers()));
    }
  }

  /** No other method, of the class or of one inside it, bears a name of the face. */
  private static void methodNames(String code) {
    Set<String> names = new TreeSet<>();
    for (String call : FACE) {
      names.add(call.substring(call.indexOf(' ') + 1, call.indexOf('(')));
    }
    Matcher declared = Pattern.compile("(?m)^ +(private )?(static )?\\w+(\\[\\])* (\\w+)\\([^)]*\\) \\{").matcher(code);
    while (declared.find()) {
      Check.holds("own name: " + declared.group(4), !names.contains(declared.group(4)));
      int parameters = declared.group().split(",").length;
      Check.holds("parameters of " + declared.group(4), parameters <= 7);
    }
  }

  private static void signs(String text) {
    Check.holds("signs 1 to 127 alone", text.chars().allMatch(c -> c >= 1 && c <= 127));
  }

  /** So the room that a run needs hangs on how many objects it makes, not on its calls. */
  private static void madeInConstructorsAlone(String code) {
    String method = "";
    for (String line : code.split("\n")) {
      if (line.matches(" {2,4}(public|private) .*\\) \\{")) {
        method = line.trim();
      }
      if (line.matches(".*\\bnew\\b.*")) {
        Check.holds("made in a constructor: " + line.trim(), method.matches("(public|private) [A-Z]\\w*\\(.*"));
      }
      Check.holds("no copies: " + line.trim(), !line.matches(".*\\b(clone|toCharArray|substring|copyOf\\w*)\\(.*"));
    }
  }

  private static void methodsAreShort(String code) {
    int lines = 0;
    for (String line : code.split("\n")) {
      boolean begins = line.matches(" {2,4}(public|private) .*\\) \\{");
      lines = begins ? 0 : lines + 1;
      if (line.matches(" {2,4}\\}")) {
        Check.holds("a method or class of " + lines + " lines", lines <= 60);
      }
    }
  }
}
