import java.io.IOException;
import java.lang.reflect.InvocationTargetException;
import java.lang.reflect.Method;
import java.nio.file.Files;
import java.nio.file.Path;
import java.util.List;
import java.util.Set;
import java.util.TreeSet;
import java.util.regex.Matcher;
import java.util.regex.Pattern;

/** What README.md tells is so: its example, its two texts, and what refused calls answer. */
public final class ReadmeTest {
  private static final Pattern CALL = Pattern.compile("x\\.(\\w+)\\((.*?)\\); +// (-?\\d+): .*");
  private static final Pattern NAME = Pattern.compile("`([a-z]+)`");

  private ReadmeTest() {
  }

  public static void main(String[] args) throws IOException, ReflectiveOperationException {
    List<String> lines = Files.readAllLines(Path.of("README.md"));
    example(lines);
    texts(lines);
    refusals(lines);
    Calls.finish();
  }

  private static void example(List<String> lines) throws ReflectiveOperationException {
    VoicesLost x = new VoicesLost();
    int calls = 0;
    for (String line : lines) {
      Matcher call = CALL.matcher(line);
      if (call.matches()) {
        calls++;
        Calls.due(line, called(x, call.group(1), call.group(2)), Integer.parseInt(call.group(3)));
      }
    }
    Calls.due("calls of the example", calls, 14);
  }

  private static int called(VoicesLost x, String name, String given) throws ReflectiveOperationException {
    Method method = methodOf(name);
    String[] parts = given.isEmpty() ? new String[0] : given.split(", ");
    Object[] arguments = new Object[parts.length];
    for (int i = 0; i < parts.length; i++) {
      arguments[i] = Integer.decode(parts[i]);
    }
    return (int) method.invoke(x, arguments);
  }

  private static Method methodOf(String name) {
    for (Method method : VoicesLost.class.getMethods()) {
      if (method.getName().equals(name)) {
        return method;
      }
    }
    throw new IllegalArgumentException(name);
  }

  private static void texts(List<String> lines) {
    for (String line : lines) {
      if (line.startsWith("    members ")) {
        Calls.due(line, Calls.council(new VoicesLost(), line.trim()), 3);
      } else if (line.startsWith("    no if ")) {
        Calls.due(line, Calls.rule(new VoicesLost(), line.trim()), 0);
      }
    }
  }

  /** Each row of the table, on an object without a COUNCIL, to which every call is told what there is not. */
  private static void refusals(List<String> lines) throws ReflectiveOperationException {
    Set<String> told = new TreeSet<>();
    for (String line : lines) {
      String[] cells = line.split(" *\\| *");
      if (cells.length == 4 && cells[1].startsWith("`") && !cells[1].contains("if ") && !cells[1].contains("with")) {
        int want = Integer.parseInt(cells[2].startsWith("`NONE`") ? "-1" : cells[2]);
        Matcher name = NAME.matcher(cells[1]);
        while (name.find()) {
          told.add(name.group(1));
          refusal(name.group(1), want, cells[3].equals("`status(0)`") ? 1 : 0);
        }
      }
    }
    Calls.due("calls in the table", told.size(), 29);
  }

  private static void refusal(String name, int want, int counted)
      throws IllegalAccessException, InvocationTargetException {
    VoicesLost x = new VoicesLost();
    for (int i = 0; i < 20; i++) {
      x.feed(0, 0, 0, 0, 0);
    }
    Method method = methodOf(name);
    Object[] arguments = new Object[method.getParameterCount()];
    for (int i = 0; i < arguments.length; i++) {
      arguments[i] = method.getParameterTypes()[i] == boolean.class ? (Object) true : (Object) (-5);
    }
    Calls.due("refused " + name, (int) method.invoke(x, arguments), want);
    Calls.dueStatus("refused " + name, x, counted, 0);
    Calls.due("the tape behind " + name, x.count(9), 400);
  }
}
