import java.io.IOException;
import java.lang.reflect.Field;
import java.lang.reflect.Modifier;
import java.nio.file.Files;
import java.nio.file.Path;
import java.util.ArrayList;
import java.util.LinkedHashMap;
import java.util.List;
import java.util.Map;
import java.util.Set;
import java.util.TreeSet;
import java.util.regex.Matcher;
import java.util.regex.Pattern;

/** What of ../shared/LANGUAGE.md can be seen from the words of the program; FaceTest has the rest of rules 1, 2 and 5. */
public final class LanguageTest {
  private static final Set<String> NAMES = Set.of("FloatOrder", "Parade", "Best", "History", "PartReader", "Math",
      "IllegalStateException", "IllegalArgumentException", "IndexOutOfBoundsException");
  private static final Set<String> FORBIDDEN = Set.of("package", "import", "protected", "try", "catch", "finally",
      "synchronized", "assert", "instanceof", "var", "lambda", "native", "volatile", "transient", "float", "goto");
  private static final Pattern HEAD = Pattern.compile("(?: {2}| {4})(?:public |private |static )*"
      + "(?:int|long|boolean|double|void) (\\w+)\\(([^)]*)\\)[^;{]*\\{\n");
  private static final int MOST_LINES = 60;
  private static final int MOST_PARAMETERS = 7;
  private static final int MOST_DEEP = 8;
  private static final int MOST_CLASSES = 12;
  private static final int MOST_FIELDS = 20;

  public static void main(String[] args) throws IOException {
    String source = Files.readString(Path.of("src/main/java/FloatOrder.java"));
    for (int i = 0; i < source.length(); i++) {
      Check.holds("sign " + (int) source.charAt(i) + " at " + i, source.charAt(i) < 127);
    }
    String code = withoutTexts(source);
    Map<String, String> bodies = bodies(code);
    wordsAreAllowed(code);
    typesAreAllowed(code);
    throwsAreWrittenOut(source);
    nothingIsDividedUnlookedAt(code);
    onlyOneMethodIsRecursive(bodies);
    callsAreNotDeep(bodies);
    loopsHaveAnEnd(code);
    objectsAreMadeOnce(code);
    methodsAreShort(code);
    classesAreSmall();
    Check.end("LanguageTest");
  }

  private static String withoutTexts(String source) {
    return source.replaceAll("(?s)/\\*.*?\\*/", "").replaceAll("//[^\n]*", "").replaceAll("\"[^\"\n]*\"", "\"\"")
        .replaceAll("'.'", "' '");
  }

  private static void absent(String code, String pattern, String what) {
    Matcher matcher = Pattern.compile(pattern).matcher(code);
    Check.holds(what + " stands in the program", !matcher.find());
  }

  private static List<String> all(String code, String pattern) {
    List<String> found = new ArrayList<>();
    Matcher matcher = Pattern.compile(pattern).matcher(code);
    while (matcher.find()) {
      found.add(matcher.group());
    }
    return found;
  }

  /** Each method's name, with what stands between its braces. */
  private static Map<String, String> bodies(String code) {
    Map<String, String> bodies = new LinkedHashMap<>();
    Matcher heads = HEAD.matcher(code);
    while (heads.find()) {
      int open = 1;
      int end = heads.end();
      while (open > 0) {
        open += code.charAt(end) == '{' ? 1 : code.charAt(end) == '}' ? -1 : 0;
        end++;
      }
      String before = bodies.put(heads.group(1), code.substring(heads.end(), end));
      Check.holds("two methods are named " + heads.group(1), before == null);
      int parameters = heads.group(2).isBlank() ? 0 : heads.group(2).split(",").length;
      Check.holds(parameters + " parameters of " + heads.group(1), parameters <= MOST_PARAMETERS);
    }
    Check.holds("methods that are looked at: " + bodies.size(), bodies.size() > 60);
    return bodies;
  }

  /** Rules 1, 2, 4, 6, 10 and 13. */
  private static void wordsAreAllowed(String code) {
    Matcher words = Pattern.compile("[A-Za-z_][A-Za-z_0-9]*").matcher(code);
    while (words.find()) {
      String word = words.group();
      Check.holds("the word " + word, !FORBIDDEN.contains(word));
      boolean isClass = Character.isUpperCase(word.charAt(0)) && !word.equals(word.toUpperCase());
      Check.holds("the library's " + word, !isClass || NAMES.contains(word));
    }
    absent(code, "->", "a lambda");
    absent(code, "::", "a method reference");
    absent(code, "Exact", "a function that throws");
    absent(code, "static\\s*\\{", "a static initialiser block");
    absent(code, "Math\\.(?!max\\()", "an unlooked-for function of Math");
    absent(code, "[^=!<>]=\\s*null|\\bnull\\b", "null");
    absent(code, "@", "an annotation");
  }

  /** Rule 3: arrays of one dimension, and the only casts are those between numbers. */
  private static void typesAreAllowed(String code) {
    absent(code, "\\]\\s*\\[", "an array of two dimensions");
    absent(code, "\\w<\\w+>", "a generic class");
    absent(code, "\\((?!int\\)|long\\)|double\\))\\w+\\) ?[\\w(]", "a cast between classes");
    absent(code, "\\b(byte|short|char)\\b", "a narrow number");
  }

  /** Rule 6: throw new E("a written text"), which is the only use of a text; none in a constructor. */
  private static void throwsAreWrittenOut(String source) {
    String code = source.replaceAll("(?s)/\\*.*?\\*/", "").replaceAll("//[^\n]*", "");
    int number = 0;
    for (String line : code.split("\n")) {
      boolean isThrow = line.matches("\\s*throw new Il?[A-Za-z]+Exception\\(\"[a-z0-9, ]+\"\\);");
      number += isThrow ? 1 : 0;
      Check.holds("a throw: " + line.strip(), isThrow || !line.matches(".*\\bthrow\\b.*"));
      Check.holds("a text: " + line.strip(), isThrow || line.indexOf('"') < 0);
    }
    Check.holds("throws that are looked at: " + number, number > 15);
    for (String constructor : all(code, "(?s)\n +(public |private )?(FloatOrder|Parade|Best|History|PartReader)\\("
        + "\\) \\{.*?\n +\\}")) {
      Check.holds("a throw in a constructor", !constructor.contains("throw"));
    }
  }

  /** Rule 7: the one division is that of smoothness, which looks at the floats first. */
  private static void nothingIsDividedUnlookedAt(String code) {
    absent(code, "%", "a remainder");
    Check.same("divisions", all(code, "/").size(), 1);
    Check.holds("the floats are looked at before they divide", all(code, "(?s)if \\(parade\\.floats <= 0\\) \\{\\s*"
        + "return 1\\.0;\\s*\\}\\s*return \\(double\\) [^;]*/ parade\\.floats;").size() == 1);
  }

  private static Set<String> callsOf(String name, Map<String, String> bodies) {
    Set<String> called = new TreeSet<>();
    for (String call : all(bodies.get(name), "\\b\\w+\\(")) {
      String other = call.substring(0, call.length() - 1);
      if (bodies.containsKey(other)) {
        called.add(other);
      }
    }
    return called;
  }

  /** Rule 8: leastFrom alone, which is private and static, and refuses what goes deeper than six floats. */
  private static void onlyOneMethodIsRecursive(Map<String, String> bodies) {
    for (String name : bodies.keySet()) {
      Set<String> reached = new TreeSet<>();
      List<String> open = new ArrayList<>(callsOf(name, bodies));
      while (!open.isEmpty()) {
        String next = open.remove(open.size() - 1);
        if (reached.add(next)) {
          open.addAll(callsOf(next, bodies));
        }
      }
      Check.holds(name + " calls itself", !reached.contains(name) || name.equals("leastFrom"));
    }
    String guard = "if (place >= orders.floats || place >= MOST_FLOATS_FOR_ALL_ORDERS)";
    Check.holds("the guard on the depth", bodies.get("leastFrom").contains(guard));
    Check.holds("the depth as an argument", bodies.get("leastFrom").contains("leastFrom(orders, place + 1,"));
  }

  private static int deep(String name, Map<String, String> bodies) {
    int deepest = 0;
    for (String called : callsOf(name, bodies)) {
      if (!called.equals(name)) {
        deepest = Math.max(deepest, deep(called, bodies));
      }
    }
    return deepest + 1;
  }

  /** Rule 11: "calls that are no recursion go at most eight deep". */
  private static void callsAreNotDeep(Map<String, String> bodies) {
    int deepest = 0;
    for (String name : bodies.keySet()) {
      int deep = deep(name, bodies);
      Check.holds(name + " goes " + deep + " deep", deep <= MOST_DEEP);
      deepest = Math.max(deepest, deep);
    }
    Check.holds("the deepest goes " + deepest + " deep", deepest > 3);
  }

  /** Rule 9: each for counts up or down to a bound, each while has a counter against a bound that its lines change. */
  private static void loopsHaveAnEnd(String code) {
    int loops = 0;
    for (String line : code.split("\n")) {
      String head = line.strip();
      if (head.matches("for\\b.*")) {
        loops++;
        boolean isUp = head.matches("for \\(int (\\w+) = [^;]*; \\1 <=? [\\w.\\[\\]]+( && [^;|]+)?; \\1\\+\\+\\) \\{");
        boolean isDown = head.matches("for \\(int (\\w+) = [^;]*; \\1 > [\\w.]+; \\1--\\) \\{");
        Check.holds("a for without an end: " + head, isUp || isDown);
      }
      absent(head, "\\bdo\\b", "a do");
    }
    Matcher whiles = Pattern.compile("(?s)while \\(([^{]*)\\) \\{(.*?)\n\\s*\\}").matcher(code);
    while (whiles.find()) {
      loops++;
      String head = whiles.group(1);
      Matcher up = Pattern.compile("\\b([a-z]\\w*) < [A-Z_]+").matcher(head);
      Matcher down = Pattern.compile("\\b([a-z]\\w*) > [01]L?").matcher(head);
      boolean isUp = up.find() && whiles.group(2).contains(up.group(1) + "++;");
      boolean isDown = down.find() && whiles.group(2).contains(down.group(1) + "--;");
      Check.holds("a while without an end: " + head, (isUp || isDown) && !head.contains("||"));
    }
    Check.same("loops", loops, all(code, "\\b(for|while) \\(").size());
    Check.holds("loops that are looked at: " + loops, loops > 20);
  }

  /** Rule 12, and the room of a run: after an object is made, its calls make none, but for the exceptions. */
  private static void objectsAreMadeOnce(String code) {
    for (String line : code.split("\n")) {
      if (line.contains("new ")) {
        boolean isField = line.matches("\\s*(private )?final .* = new .*;");
        boolean isSaved = line.strip().equals("saved[i] = new Parade();");
        Check.holds("made once: " + line.strip(), isField || isSaved || line.strip().startsWith("throw new "));
      }
    }
  }

  /** Rule 11. Lines are counted from a method's head on; a class inside ends soon after its last method. */
  private static void methodsAreShort(String code) {
    int lines = 0;
    for (String line : code.split("\n")) {
      boolean begins = line.matches("( {2}| {4})[a-zA-Z].*\\(.*") && !line.contains(";");
      lines = begins ? 1 : lines + 1;
      boolean ends = line.equals("  }") || line.equals("    }");
      Check.holds("a method of " + lines + " lines ends with " + line, !ends || lines <= MOST_LINES);
    }
  }

  /** Rule 11: "at most some twelve classes, and a class some twenty fields beside its constants". */
  private static void classesAreSmall() {
    List<Class<?>> classes = new ArrayList<>(List.of(FloatOrder.class.getDeclaredClasses()));
    classes.add(FloatOrder.class);
    Check.holds(classes.size() + " classes", classes.size() <= MOST_CLASSES);
    for (Class<?> each : classes) {
      int fields = 0;
      for (Field field : each.getDeclaredFields()) {
        fields += Modifier.isStatic(field.getModifiers()) ? 0 : 1;
      }
      Check.holds(fields + " fields of " + each, fields <= MOST_FIELDS);
    }
  }
}
