import java.nio.file.Files;
import java.nio.file.Path;
import java.util.regex.Matcher;
import java.util.regex.Pattern;

/** What of LANGUAGE.md can be seen in the program's letters. */
public final class LanguageTest extends Due {
  private static final String[] NOT_THERE = {
    "throw", "throws", "try", "catch", "synchronized", "assert", "import", "package", "equals", "hashCode", "toString",
    "System", "Object", "Random", "Thread", "float", "double", "enum", "protected", "volatile"
  };

  public static void main(String[] args) throws Exception {
    String source = Files.readString(Path.of("src/main/java/FasterForTheRich.java"));
    String code = source.replaceAll("(?s)/\\*.*?\\*/", "").replaceAll("//[^\n]*", "");
    for (String word : NOT_THERE) {
      dueTrue("no " + word, !Pattern.compile("\\b" + word + "\\b").matcher(code).find());
    }
    dueTrue("no lambda", !code.contains("->"));
    dueTrue("no method reference", !code.contains("::"));
    dueTrue("no exact function", !code.contains("Exact("));
    dueTrue("no static block", !Pattern.compile("static\\s*\\{").matcher(code).find());
    dueTrue("signs 1 to 127", source.chars().allMatch(sign -> sign > 0 && sign < 128));
    staticFieldsAreFinal(code);
    newInConstructorsAlone(code);
    shortMethods(code);
    Matcher classes = Pattern.compile("\\bclass \\w+ (?:extends \\w+ )?\\{").matcher(code);
    int many = 0;
    while (classes.find()) many++;
    dueTrue("some twelve classes at most, not " + many, many > 1 && many <= 12);
    end();
  }

  private static void staticFieldsAreFinal(String code) {
    Matcher field = Pattern.compile("\\bstatic (?!final)[^(){}]*[=;]").matcher(code);
    dueTrue("static fields are final", !field.find());
  }

  // All objects are made with an object of the class, none by a call: rows and towns are used again.
  private static void newInConstructorsAlone(String code) {
    String method = "";
    for (String line : code.split("\n")) {
      Matcher head = Pattern.compile("^ +(?:public |private |static |final )*(?:(\\w+(?:\\[\\])?) )?(\\w+)\\(.*\\) \\{")
          .matcher(line);
      if (head.find() && !line.contains("else")) method = head.group(1) == null ? "" : head.group(2);
      if (!line.startsWith("      ") && line.contains(" class ")) method = "";
      dueTrue("no new in a call: " + line, !line.contains("new ") || method.isEmpty());
    }
  }

  private static void shortMethods(String code) {
    int since = 0;
    int number = 0;
    for (String line : code.split("\n")) {
      number++;
      if (line.matches(" {2,4}[\\w\\[\\] ]+\\(.*\\) \\{")) since = number;
      if (line.matches(" {2,4}\\}")) dueTrue("short: line " + since, number - since <= 60 || since == 0);
      if (line.matches(" {2}\\}")) since = 0;
    }
  }
}
