import java.io.IOException;
import java.lang.reflect.Field;
import java.lang.reflect.Method;
import java.lang.reflect.Modifier;
import java.nio.file.Files;
import java.nio.file.Path;
import java.util.Set;
import java.util.TreeSet;
import java.util.regex.Matcher;
import java.util.regex.Pattern;

/** The public face is the document's, and the source keeps to what can be seen of the language's rules. */
public final class FaceTest {
  private static final String FACE =
      "feed(int,int,int,int,int) end(int) council() rule() voice(int,int) worth(int,int) "
      + "bend(int,int) attends(int,boolean) beside(int,int) says(int,int) vote(int) bench(int,int) "
      + "order(int) ordered(int) day() open(int,int,int) lose(int) plan(int,int,int) spoilers(int) "
      + "sides(int,int,int) chair(int,boolean,int) rounds(int) entry(int,int,int,int) "
      + "fits(int,int,int) tells(int,int) seed(int) year(int,int,int) status(int) count(int) "
      + "image(int) back(int)";
  private static final Path SOURCE = Path.of("src/main/java/VoicesLost.java");
  private static int wrong = 0;

  private FaceTest() {
  }

  public static void main(String[] args) throws IOException {
    methods();
    fieldsAndClasses();
    source();
    System.out.println(wrong == 0 ? "the face is as due" : wrong + " things are not as due");
    if (wrong != 0) {
      System.exit(1);
    }
  }

  private static void check(boolean isRight, String what) {
    if (!isRight) {
      wrong++;
      System.out.println("not as due: " + what);
    }
  }

  private static void methods() {
    Set<String> due = new TreeSet<>(Set.of(FACE.split(" ")));
    Set<String> names = new TreeSet<>();
    Set<String> found = new TreeSet<>();
    for (String one : due) {
      names.add(one.substring(0, one.indexOf('(')));
    }
    for (Method method : VoicesLost.class.getDeclaredMethods()) {
      if (Modifier.isPublic(method.getModifiers())) {
        found.add(signature(method));
        check(method.getReturnType() == int.class, "the type of " + method);
        check(!Modifier.isStatic(method.getModifiers()), "static " + method);
      } else {
        check(Modifier.isPrivate(method.getModifiers()), "not private: " + method);
        check(!names.contains(method.getName()), "a public name: " + method);
      }
    }
    check(found.equals(due), "the public methods " + found);
    for (Class<?> inside : VoicesLost.class.getDeclaredClasses()) {
      for (Method method : inside.getDeclaredMethods()) {
        check(!names.contains(method.getName()), "a public name: " + method);
        check(method.getParameterCount() <= 7, "too many parameters: " + method);
      }
    }
  }

  private static String signature(Method method) {
    StringBuilder text = new StringBuilder(method.getName()).append('(');
    for (Class<?> type : method.getParameterTypes()) {
      text.append(text.charAt(text.length() - 1) == '(' ? "" : ",").append(type.getName());
    }
    return text.append(')').toString();
  }

  private static void fieldsAndClasses() {
    int bits = VoicesLost.class.getModifiers();
    check(Modifier.isPublic(bits) && Modifier.isFinal(bits), "the class");
    check(VoicesLost.class.getDeclaredConstructors().length == 1, "one constructor");
    check(VoicesLost.class.getConstructors().length == 1, "a public constructor");
    check(VoicesLost.NONE == -1, "NONE");
    int classes = 1;
    fields(VoicesLost.class, true);
    for (Class<?> inside : VoicesLost.class.getDeclaredClasses()) {
      classes++;
      check(Modifier.isStatic(inside.getModifiers()), "not static: " + inside);
      check(!Modifier.isPublic(inside.getModifiers()), "public: " + inside);
      fields(inside, false);
    }
    check(classes <= 12, classes + " classes");
  }

  private static void fields(Class<?> of, boolean isFace) {
    int own = 0;
    for (Field field : of.getDeclaredFields()) {
      int bits = field.getModifiers();
      check(!Modifier.isStatic(bits) || Modifier.isFinal(bits), "static, not final: " + field);
      own += Modifier.isStatic(bits) ? 0 : 1;
      if (isFace) {
        check(Modifier.isPrivate(bits) || field.getName().equals("NONE"), "not private: " + field);
      }
    }
    check(own <= 20, own + " fields in " + of);
  }

  private static void source() throws IOException {
    String all = Files.readString(SOURCE);
    check(all.chars().allMatch(c -> c == '\n' || c >= 32 && c < 127), "signs out of 32 to 126");
    String code = all.replaceAll("(?s)/\\*.*?\\*/", "").replaceAll("//[^\n]*", "")
        .replaceAll("'(\\\\.|[^'\\\\])'", "' '").replaceAll("\"[^\"\n]*\"", "\" \"");
    String[] banned = {
      "throw", "throws", "try", "catch", "finally", "synchronized", "assert", "import", "package",
      "protected", "native", "volatile", "var", "Object", "Integer\\.(?!bitCount)", "Long\\.",
      "System\\.(?!arraycopy)", "Thread", "->", "::", "double", "float", "instanceof", "Exception",
      "hashCode", "toString", "static\\s*\\{", "@",
    };
    for (String word : banned) {
      Matcher found = Pattern.compile(Character.isLetter(word.charAt(0)) ? "\\b" + word : word).matcher(code);
      while (found.find()) {
        boolean isWord = !Character.isLetter(word.charAt(word.length() - 1))
            || found.end() == code.length() || !Character.isJavaIdentifierPart(code.charAt(found.end()));
        check(!isWord, "in the source: " + word);
      }
    }
    check(!Pattern.compile("while \\(true\\)|for \\([^;]*;\\s*;").matcher(code).find(), "a loop without an end");
    loops(code);
    lengths(all.split("\n", -1));
  }

  /** A loop's own head holds something against a bound; a shift alone may never come to its end. */
  private static void loops(String code) {
    Matcher head = Pattern.compile("\\b(for|while) (\\(.*\\)) \\{").matcher(code);
    int found = 0;
    while (head.find()) {
      found++;
      check(head.group(2).replaceAll("<<|>>", "").matches(".*[<>].*"), "no bound in " + head.group());
    }
    int all = Pattern.compile("\\b(for|while|do)\\b").split(code, -1).length - 1;
    check(found == all, found + " heads of " + all + " loops");
  }

  /** A method begins with a line that ends in ") {" at the depth of members and ends with its brace. */
  private static void lengths(String[] lines) {
    int from = -1;
    String end = "";
    for (int i = 0; i < lines.length; i++) {
      check(lines[i].length() <= 110, "line " + (i + 1) + " is long");
      Matcher begin = Pattern.compile("( {2}| {4})(public|private|static|int|void|boolean|long|[A-Z]\\w*).*\\) \\{")
          .matcher(lines[i]);
      if (begin.matches()) {
        from = i;
        end = begin.group(1) + "}";
      } else if (from >= 0 && lines[i].equals(end)) {
        check(i - from < 60, "the method at line " + (from + 1) + " has " + (i - from + 1) + " lines");
        from = -1;
      }
    }
  }
}
