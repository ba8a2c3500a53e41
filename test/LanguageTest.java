import java.nio.file.Files;
import java.nio.file.Path;
import java.util.HashMap;
import java.util.List;
import java.util.Map;
import java.util.Set;
import java.util.TreeSet;
import java.util.regex.Matcher;
import java.util.regex.Pattern;

/** What of LANGUAGE.md can be seen in the program's letters. */
public final class LanguageTest extends Due {
  private static final String[] NOT_THERE = {
    "throw", "throws", "try", "catch", "synchronized", "assert", "import", "package", "equals", "hashCode", "toString",
    "System", "Object", "Random", "Thread", "float", "double", "enum", "protected", "volatile", "instanceof"
  };
  private static final Set<String> NO_CALLS = Set.of("if", "for", "switch", "super", "return");
  // What the program calls of the library: names that no method of its own may bear, or a call could be either's.
  private static final Set<String> LIBRARY = Set.of("min", "max", "bitCount");
  private static final Pattern HEAD =
      Pattern.compile("(?m)^ {2,4}(?:(?:public|private|static|final) )*[a-z]\\w*(?:\\[\\])? (\\w+)\\((.*)\\) \\{$");

  public static void main(String[] args) throws Exception {
    String source = Files.readString(Path.of("src/main/java/FasterForTheRich.java"));
    String code = source.replaceAll("(?s)/\\*.*?\\*/", "").replaceAll("//[^\n]*", "");
    for (String word : NOT_THERE) {
      dueTrue("no " + word, !Pattern.compile("\\b" + word + "\\b").matcher(code).find());
    }
    dueTrue("no lambda", !code.contains("->"));
    dueTrue("no method reference", !code.contains("::"));
    dueTrue("no exact function", !code.contains("Exact("));
    dueTrue("no static block", !Pattern.compile("static\\s*\\{").matcher(code).find());
    dueTrue("signs 1 to 127", source.chars().allMatch(sign -> sign > 0 && sign < 128));
    staticFieldsAreFinal(code);
    newInConstructorsAlone(code);
    shortMethods(code);
    fewClassesAndFields();
    loopsEnd(code);
    callsAreFewDeep(code);
    end();
  }

  private static void fewClassesAndFields() {
    Class<?>[] inside = FasterForTheRich.class.getDeclaredClasses();
    dueTrue("some twelve classes at most, not " + inside.length, inside.length > 1 && inside.length <= 11);
    fewFields(FasterForTheRich.class);
    for (Class<?> one : inside) fewFields(one);
  }

  // Static fields are constants, and final ones alone: the others are counted.
  private static void fewFields(Class<?> one) {
    int many = 0;
    for (java.lang.reflect.Field field : one.getDeclaredFields()) {
      if (!java.lang.reflect.Modifier.isStatic(field.getModifiers())) many++;
    }
    dueTrue(one + ": some twenty fields at most, not " + many, many <= 20);
  }

  // Each loop counts against a bound that its own line tells, and nothing in its body sets the counter.
  private static void loopsEnd(String code) {
    for (String word : List.of("while", "do")) {
      dueTrue("no loop by " + word, !Pattern.compile("\\b" + word + "\\b").matcher(code).find());
    }
    Pattern counts = Pattern.compile("for \\(int (\\w+) = [^;]+; (?:\\1 <=? [\\w.]+(?: && [^|;]+)?; \\1\\+\\+"
        + "|\\1 >= 0; \\1--)\\) \\{");
    String[] lines = code.split("\n");
    for (int i = 0; i < lines.length; i++) {
      if (!Pattern.compile("\\bfor\\b").matcher(lines[i]).find()) continue;
      Matcher loop = counts.matcher(lines[i]);
      boolean ends = loop.find();
      dueTrue("a loop counts against a bound: " + lines[i], ends);
      if (!ends) continue;
      String margin = lines[i].replaceAll("\\S.*", "");
      Pattern sets = Pattern.compile("\\b" + loop.group(1) + "(?:\\+\\+|--| [-+*/%]?= )");
      for (int j = i + 1; j < lines.length && !lines[j].equals(margin + "}"); j++) {
        dueTrue("the body leaves the counter: " + lines[j], !sets.matcher(lines[j]).find());
      }
    }
  }

  // By names alone, so that not even an overloaded one looks as if it called itself.
  private static void callsAreFewDeep(String code) {
    Map<String, Set<String>> calls = new HashMap<>();
    Matcher head = HEAD.matcher(code);
    while (head.find()) {
      dueTrue(head.group(1) + ": seven parameters at most", head.group(2).split(",").length <= 7);
      dueTrue(head.group(1) + " is no name of the library", !LIBRARY.contains(head.group(1)));
      String margin = head.group().replaceAll("\\S.*", "");
      String body = code.substring(head.end(), code.indexOf("\n" + margin + "}", head.end()));
      Set<String> called = calls.computeIfAbsent(head.group(1), name -> new TreeSet<>());
      Matcher call = Pattern.compile("(?<!new )\\b(\\w+)\\(").matcher(body);
      while (call.find()) {
        if (!NO_CALLS.contains(call.group(1)) && !LIBRARY.contains(call.group(1))) called.add(call.group(1));
      }
    }
    dueTrue("methods are found: " + calls.size(), calls.size() > 100);
    for (String name : calls.keySet()) {
      int depth = depth(name, calls, 0);
      dueTrue(name + " goes at most eight deep, not " + depth, depth <= 8);
    }
  }

  // How many methods stand open at once below one, he counted; who calls himself is told as too deep.
  private static int depth(String name, Map<String, Set<String>> calls, int open) {
    dueTrue(name + " is a method", calls.containsKey(name));
    if (open > 20 || !calls.containsKey(name)) return 1;
    int most = 0;
    for (String called : calls.get(name)) most = Math.max(most, depth(called, calls, open + 1));
    return most + 1;
  }

  private static void staticFieldsAreFinal(String code) {
    Matcher field = Pattern.compile("\\bstatic (?!final)[^(){}]*[=;]").matcher(code);
    dueTrue("static fields are final", !field.find());
  }

  // All objects are made with an object of the class, none by a call: rows and towns are used again.
  private static void newInConstructorsAlone(String code) {
    String method = "";
    for (String line : code.split("\n")) {
      Matcher head = Pattern.compile("^ +(?:public |private |static |final )*(?:(\\w+(?:\\[\\])?) )?(\\w+)\\(.*\\) \\{")
          .matcher(line);
      if (head.find() && !line.contains("else")) method = head.group(1) == null ? "" : head.group(2);
      if (!line.startsWith("      ") && line.contains(" class ")) method = "";
      dueTrue("no new in a call: " + line, !line.contains("new ") || method.isEmpty());
    }
  }

  private static void shortMethods(String code) {
    int since = 0;
    int number = 0;
    for (String line : code.split("\n")) {
      number++;
      if (line.matches(" {2,4}[\\w\\[\\] ]+\\(.*\\) \\{")) since = number;
      if (line.matches(" {2,4}\\}")) dueTrue("short: line " + since, number - since <= 60 || since == 0);
      if (line.matches(" {2}\\}")) since = 0;
    }
  }
}
