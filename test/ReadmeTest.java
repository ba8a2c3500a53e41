import java.lang.reflect.Method;
import java.nio.file.Files;
import java.nio.file.Path;
import java.util.HashMap;
import java.util.Map;
import java.util.TreeSet;
import java.util.regex.Matcher;
import java.util.regex.Pattern;

/** README.md tells what the program does: its example answers so, and its table has every call. */
public final class ReadmeTest extends Due {
  private static final Pattern STEP = Pattern.compile("(?:int (\\w+) = )?town\\.(\\w+)\\((.*?)\\);.*: (-?\\d+)");
  private static final Pattern ROW = Pattern.compile("(?m)^\\| .*\\|$");
  private static final Pattern CALL = Pattern.compile("`(\\w+)`");

  public static void main(String[] args) throws Exception {
    String readme = Files.readString(Path.of("README.md"));
    example(readme);
    table(readme);
    end();
  }

  private static void example(String readme) throws Exception {
    FasterForTheRich town = new FasterForTheRich();
    Map<String, Integer> names = new HashMap<>();
    int begins = readme.indexOf("```java\n") + 8;
    String[] lines = readme.substring(begins, readme.indexOf("```", begins)).split("\n");
    for (int i = 1; i < lines.length; i++) {
      Matcher step = STEP.matcher(lines[i]);
      boolean read = step.matches();
      dueTrue("a step: " + lines[i], read);
      if (!read) continue;
      int answer = call(town, step.group(2), step.group(3), names);
      due(lines[i], answer, Integer.parseInt(step.group(4)));
      if (step.group(1) != null) names.put(step.group(1), answer);
    }
    dueTrue("the example has steps", lines.length > 5);
  }

  private static int call(FasterForTheRich town, String name, String told, Map<String, Integer> names) throws Exception {
    String[] words = told.isEmpty() ? new String[0] : told.split(", ");
    Class<?>[] ints = new Class<?>[words.length];
    Object[] values = new Object[words.length];
    for (int i = 0; i < words.length; i++) {
      ints[i] = int.class;
      values[i] = names.containsKey(words[i]) ? names.get(words[i]) : Integer.valueOf(words[i]);
    }
    return (Integer) FasterForTheRich.class.getMethod(name, ints).invoke(town, values);
  }

  private static void table(String readme) {
    TreeSet<String> told = new TreeSet<>();
    Matcher row = ROW.matcher(readme);
    while (row.find()) {
      Matcher call = CALL.matcher(row.group());
      while (call.find()) dueTrue(call.group(1) + " is told once", told.add(call.group(1)));
    }
    TreeSet<String> face = new TreeSet<>();
    for (Method method : FasterForTheRich.class.getDeclaredMethods()) {
      if (java.lang.reflect.Modifier.isPublic(method.getModifiers())) face.add(method.getName());
    }
    dueTrue("the table has " + told + ", the face " + face, told.equals(face));
  }
}
